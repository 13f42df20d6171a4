/-! ROWS OF A WALK OVER THE REFERENCE: what is read is told of M, what is written gives the new state. -/
section REFROWS
variable {p : Program} {l : Launch} {e : Env} {R : Room} {s : State} {mi : MethodId} {args : Array Value} {below : List Frame} {meth : Method} {c : Code} {D : va_G} {cI cZ cO : ClassId} {A9 : Nat → Prop} {Q : State → Prop} {X : va_W} {nL : Nat} {S0 S : PS} {cells slots pc : Nat} {lo : List (Option Value)} {st : List Value} {cc : ByteArray} {G : Nat → Nat} {m : Nat} {A : Nat → Nat} {M : MS}
theorem z_getA (h0 : ZC p s c cc nL D cI cZ cO A9 G) (hR : RF S0 S m A M) {ci pos f index : Nat} {own : String} (k : Nat) (hk : k < 10) (hf : fOok 6 ci pos f) (he : f = 10 + k) (hl : zLk s mi args own index ci pos) (hd : decode cc pc = .ok (.getfield index, 3))
    (kk : ZW p l e R s mi args below meth c D cI cZ cO A9 Q X nL S cells slots (pc + 3) lo (.ref (A k) :: st)) : ZW p l e R s mi args below meth c D cI cZ cO A9 Q X nL S cells slots pc lo (.ref m :: st) := by
  subst he
  exact z_getO h0 hf hl hd (RF_m hR) (RF_o hR hk) kk
theorem z_getSP (h0 : ZC p s c cc nL D cI cZ cO A9 G) (hR : RF S0 S m A M) {ci pos index : Nat} {own : String} (hf : fIok 6 ci pos 16) (hl : zLk s mi args own index ci pos) (hd : decode cc pc = .ok (.getfield index, 3))
    (kk : ZW p l e R s mi args below meth c D cI cZ cO A9 Q X nL S cells slots (pc + 3) lo (.int (nI (mP M)) :: st)) : ZW p l e R s mi args below meth c D cI cZ cO A9 Q X nL S cells slots pc lo (.ref m :: st) := z_getI h0 hf hl hd (RF_m hR) (RF_p hR ▸ kk)
theorem z_getSM (h0 : ZC p s c cc nL D cI cZ cO A9 G) (hR : RF S0 S m A M) {ci pos index : Nat} {own : String} (hf : fIok 6 ci pos 17) (hl : zLk s mi args own index ci pos) (hd : decode cc pc = .ok (.getfield index, 3))
    (kk : ZW p l e R s mi args below meth c D cI cZ cO A9 Q X nL S cells slots (pc + 3) lo (.int (nI (mM M)) :: st)) : ZW p l e R s mi args below meth c D cI cZ cO A9 Q X nL S cells slots pc lo (.ref m :: st) := z_getI h0 hf hl hd (RF_m hR) (RF_mm hR ▸ kk)
theorem z_getSE (h0 : ZC p s c cc nL D cI cZ cO A9 G) (hR : RF S0 S m A M) {ci pos index : Nat} {own : String} (hf : fIok 6 ci pos 18) (hl : zLk s mi args own index ci pos) (hd : decode cc pc = .ok (.getfield index, 3))
    (kk : ZW p l e R s mi args below meth c D cI cZ cO A9 Q X nL S cells slots (pc + 3) lo (.int (nI (mE M)) :: st)) : ZW p l e R s mi args below meth c D cI cZ cO A9 Q X nL S cells slots pc lo (.ref m :: st) := z_getI h0 hf hl hd (RF_m hR) (RF_e hR ▸ kk)
theorem z_putC (h0 : ZC p s c cc nL D cI cZ cO A9 G) (hR : RX S0 S m A M) {ci pos index : Nat} {own : String} {x : Int32} (hf : fIok 6 ci pos 15) (hl : zLp s mi args meth own index ci pos .int) (hd : decode cc pc = .ok (.putfield index, 3))
    (kk : ∀ S1, RX S0 S1 m A M → RF S1 S1 m A M → pI S1 15 m = x → ZW p l e R s mi args below meth c D cI cZ cO A9 Q X nL S1 cells slots (pc + 3) lo st) : ZW p l e R s mi args below meth c D cI cZ cO A9 Q X nL S cells slots pc lo (.int x :: .ref m :: st) := z_putI h0 hf hl hd hR.1 rfl rfl (kk _ (RX_sI hR) (RX_base (RX_sI hR)) pI_s)
theorem z_putP (h0 : ZC p s c cc nL D cI cZ cO A9 G) (hR : RF S0 S m A M) {ci pos index : Nat} {own : String} {x : Int32} (hf : fIok 6 ci pos 16) (hl : zLp s mi args meth own index ci pos .int) (hd : decode cc pc = .ok (.putfield index, 3)) {v : Nat} (hx : x = nI v)
    (kk : RF S0 (sI S 16 m x) m A (v, mM M, mE M, mA M, mT M) → ZW p l e R s mi args below meth c D cI cZ cO A9 Q X nL (sI S 16 m x) cells slots (pc + 3) lo st) : ZW p l e R s mi args below meth c D cI cZ cO A9 Q X nL S cells slots pc lo (.int x :: .ref m :: st) := z_putI h0 hf hl hd (RF_m hR) rfl rfl (kk (RF_sP hR hx))
theorem z_putM (h0 : ZC p s c cc nL D cI cZ cO A9 G) (hR : RF S0 S m A M) {ci pos index : Nat} {own : String} {x : Int32} (hf : fIok 6 ci pos 17) (hl : zLp s mi args meth own index ci pos .int) (hd : decode cc pc = .ok (.putfield index, 3)) {v : Nat} (hx : x = nI v)
    (kk : RF S0 (sI S 17 m x) m A (mP M, v, mE M, mA M, mT M) → ZW p l e R s mi args below meth c D cI cZ cO A9 Q X nL (sI S 17 m x) cells slots (pc + 3) lo st) : ZW p l e R s mi args below meth c D cI cZ cO A9 Q X nL S cells slots pc lo (.int x :: .ref m :: st) := z_putI h0 hf hl hd (RF_m hR) rfl rfl (kk (RF_sM hR hx))
theorem z_putE (h0 : ZC p s c cc nL D cI cZ cO A9 G) (hR : RF S0 S m A M) {ci pos index : Nat} {own : String} {x : Int32} (hf : fIok 6 ci pos 18) (hl : zLp s mi args meth own index ci pos .int) (hd : decode cc pc = .ok (.putfield index, 3)) {v : Nat} (hx : x = nI v)
    (kk : RF S0 (sI S 18 m x) m A (mP M, mM M, v, mA M, mT M) → ZW p l e R s mi args below meth c D cI cZ cO A9 Q X nL (sI S 18 m x) cells slots (pc + 3) lo st) : ZW p l e R s mi args below meth c D cI cZ cO A9 Q X nL S cells slots pc lo (.int x :: .ref m :: st) := z_putI h0 hf hl hd (RF_m hR) rfl rfl (kk (RF_sE hR hx))
theorem z_ialdR (h0 : ZC p s c cc nL D cI cZ cO A9 G) (hR : RF S0 S m A M) (k : Nat) (hk : k < 9) (hk8 : rKd k = 8) {i : Int32} {j : Nat} (hd : decode cc pc = .ok (.iaload, 1)) (hi : i.toInt = (j : Int)) (hj : j < rLen k)
    (kk : ZW p l e R s mi args below meth c D cI cZ cO A9 Q X nL S cells slots (pc + 1) lo (.int (mA M k j) :: st)) : ZW p l e R s mi args below meth c D cI cZ cO A9 Q X nL S cells slots pc lo (.int i :: .ref (A k) :: st) :=
  z_iald h0 hd (hk8 ▸ RF_k hR (by omega)) hi (RF_n hR (by omega) hj) (RF_r hR hk ▸ kk)
theorem z_zaldR (h0 : ZC p s c cc nL D cI cZ cO A9 G) (hR : RF S0 S m A M) {i : Int32} {j : Nat} (hd : decode cc pc = .ok (.baload, 1)) (hi : i.toInt = (j : Int)) (hj : j < 800)
    (kk : ZW p l e R s mi args below meth c D cI cZ cO A9 Q X nL S cells slots (pc + 1) lo (.int (mA M 8 j) :: st)) : ZW p l e R s mi args below meth c D cI cZ cO A9 Q X nL S cells slots pc lo (.int i :: .ref (A 8) :: st) :=
  z_zald h0 hd (RF_k hR (k := 8) (by decide)) hi (RF_n hR (k := 8) (by decide) hj) (RF_r hR (k := 8) (by decide) ▸ kk)
theorem z_taldR (h0 : ZC p s c cc nL D cI cZ cO A9 G) (hR : RF S0 S m A M) {i : Int32} {q k : Nat} (hd : decode cc pc = .ok (.iaload, 1)) (hi : i.toInt = ((5 * q + k : Nat) : Int)) (hk : k < 5) (hq : q < 1672)
    (kk : ZW p l e R s mi args below meth c D cI cZ cO A9 Q X nL S cells slots (pc + 1) lo (.int (part k (mT M q)) :: st)) : ZW p l e R s mi args below meth c D cI cZ cO A9 Q X nL S cells slots pc lo (.int i :: .ref (A 9) :: st) :=
  z_iald h0 hd (RF_k hR (k := 9) (by decide)) hi (RF_n hR (k := 9) (by decide) (by show _ < 8360; omega)) (RF_t hR hk ▸ kk)
theorem z_iastR (h0 : ZC p s c cc nL D cI cZ cO A9 G) (hR : RF S0 S m A M) (k : Nat) (hk : k < 9) (hk8 : rKd k = 8) {i v : Int32} {j : Nat} (hd : decode cc pc = .ok (.iastore, 1)) (hi : i.toInt = (j : Int)) (hj : j < rLen k)
    (kk : RF S0 (sR S (A k) j v) m A (sA M k j v) → ZW p l e R s mi args below meth c D cI cZ cO A9 Q X nL (sR S (A k) j v) cells slots (pc + 1) lo st) : ZW p l e R s mi args below meth c D cI cZ cO A9 Q X nL S cells slots pc lo (.int v :: .int i :: .ref (A k) :: st) :=
  z_iast h0 hd (hk8 ▸ RF_k hR (by omega)) hi (RF_n hR (by omega) hj) (kk (RF_sR hR hk))
theorem z_zastR (h0 : ZC p s c cc nL D cI cZ cO A9 G) (hR : RF S0 S m A M) {i v : Int32} {j : Nat} (hd : decode cc pc = .ok (.bastore, 1)) (hi : i.toInt = (j : Int)) (hj : j < 800) (hv : vp_nar .boolean v = v)
    (kk : RF S0 (sR S (A 8) j v) m A (sA M 8 j v) → ZW p l e R s mi args below meth c D cI cZ cO A9 Q X nL (sR S (A 8) j v) cells slots (pc + 1) lo st) : ZW p l e R s mi args below meth c D cI cZ cO A9 Q X nL S cells slots pc lo (.int v :: .int i :: .ref (A 8) :: st) :=
  z_zast h0 hd (RF_k hR (k := 8) (by decide)) hi (RF_n hR (k := 8) (by decide) hj) hv (kk (RF_sR hR (by decide)))
theorem z_tastR (h0 : ZC p s c cc nL D cI cZ cO A9 G) (hR : RF S0 S m A M) {i v : Int32} {q k : Nat} (hd : decode cc pc = .ok (.iastore, 1)) (hi : i.toInt = ((5 * q + k : Nat) : Int)) (hk : k < 5) (hq : q < 1672)
    (kk : RF S0 (sR S (A 9) (5 * q + k) v) m A (sT M q (setP (mT M q) k v)) → ZW p l e R s mi args below meth c D cI cZ cO A9 Q X nL (sR S (A 9) (5 * q + k) v) cells slots (pc + 1) lo st) : ZW p l e R s mi args below meth c D cI cZ cO A9 Q X nL S cells slots pc lo (.int v :: .int i :: .ref (A 9) :: st) :=
  z_iast h0 hd (RF_k hR (k := 9) (by decide)) hi (RF_n hR (k := 9) (by decide) (by show _ < 8360; omega)) (kk (RF_sT hR hk))
end REFROWS
section REFMID
/-- a truth as an int -/
def bI (b : Bool) : Int32 := if b then 1 else 0
theorem bI_t {x : Bool} {b : Int32} (hb : b = bI x) (h : ¬ b = 0) : x = true := by cases x; exact absurd hb h; rfl
theorem bI_f {x : Bool} {b : Int32} (hb : b = bI x) (h : b = 0) : x = false := by cases x; rfl; rw [hb] at h; exact absurd h (by decide)
theorem bI_nar (x : Bool) : narrow .boolean (.int (bI x)) = .int (bI x) := by cases x <;> rfl
theorem any_s {f : Nat → Bool} {i : Nat} : (List.range (i + 1)).any f = ((List.range i).any f || f i) := by rw [List.range_succ, List.any_append]; simp
theorem or_t1 {x y : Bool} {b : Int32} (hb : b = bI x) (h : ¬ b = 0) : (1 : Int32) = bI (x || y) := by rw [bI_t hb h]; rfl
theorem or_t2 {x y : Bool} (h : y = true) : (1 : Int32) = bI (x || y) := by rw [h, Bool.or_true]; rfl
theorem or_f {x y : Bool} {b : Int32} (hb : b = bI x) (h : b = 0) (hy : y = false) : (0 : Int32) = bI (x || y) := by rw [bI_f hb h, hy]; rfl
theorem and_f1 {x y : Bool} {b : Int32} (hb : b = bI x) (h : b = 0) : (0 : Int32) = bI (x && y) := by rw [bI_f hb h]; rfl
theorem and_f2 {x y : Bool} (h : y = false) : (0 : Int32) = bI (x && y) := by rw [h, Bool.and_false]; rfl
theorem and_t {x y : Bool} {b : Int32} (hb : b = bI x) (h : ¬ b = 0) (hy : y = true) : (1 : Int32) = bI (x && y) := by rw [bI_t hb h, hy]; rfl
theorem all_s {f : Nat → Bool} {i : Nat} : (List.range (i + 1)).all f = ((List.range i).all f && f i) := by rw [List.range_succ, List.all_append]; simp
theorem if_bI {P : Prop} [Decidable P] : (if P then (1 : Int32) else 0) = bI (decide P) := by by_cases h : P <;> simp [bI, h]

theorem flag_same {t u : T5} {r : Int32} (hr : r = if t = u then 1 else 0) : (r = 0 → decide (t = u) = false) ∧ (¬ r = 0 → decide (t = u) = true) := by
  by_cases h : t = u <;> simp_all
theorem and_dec {P Q : Prop} [Decidable P] [Decidable Q] : decide (P ∧ Q) = (decide P && decide Q) := by by_cases hp : P <;> by_cases hq : Q <;> simp [hp, hq]

abbrev rm_X6_isInLog : Room := { frames := 1, cells := 0, slots := 0, locals := 24 }
set_option maxRecDepth 100000 in
set_option maxHeartbeats 4000000 in
theorem c_X6_isInLog {l : Launch} {D : va_G} {cI cZ cO : ClassId} {G : Nat → Nat} {S : PS} {m : Nat} {A : Nat → Nat} {M : MS} (hR : RF S S m A M) {p q n0 : Nat} (hp : p < 12) (hn : mA M 3 p = nI n0) (hn5 : n0 ≤ 5) (hq : q < 1672) : zMi l yX6_isInLog wsX6_isInLog rm_X6_isInLog [.ref m, .int (nI p), .int (nI q)] D cI cZ cO G S (fun r S' => S = S' ∧ r = bI ((List.range n0).any (fun j => decide (mT M (12 + 5 * p + j) = mT M q)))) := by
  refine z_of (cc := cX6_isInLog) (maxL := 5) (ret := (some .boolean)) (lo := [some (.ref m), some (.int (nI p)), some (.int (nI q)), none, none]) (by decide) rfl rfl (Nat.le_of_ble_eq_true rfl) rfl ?_
  intro pp ee ss mi aa bl mh cd h0 hts hown hr hlk hnm
  have hown : ss.vm.findClass RX6 = some mi.cls := hown
  have inX6 : ∀ w ∈ u_ws RX6 TX6 14, w ∈ wsX6_isInLog := by decide +kernel
  have lk_19 : zLk ss mi aa RX6 19 7 5 := ⟨RX6, TX6, 14, "PurseWorldModel", wsX6_isInLog, rfl, by decide, hts, inX6, hown, hts (.fieldLink RX6 19 "PurseWorldModel" "logSize" "[I") (by decide +kernel), fun _ h => h⟩
  have loop : ∀ (n i : Nat) (b : Int32), n0 - i < n → i ≤ n0 → b = bI ((List.range i).any (fun j => decide (mT M (12 + 5 * p + j) = mT M q))) → ZW pp l ee rm_X6_isInLog ss mi aa bl mh cd D cI cZ cO (zA cI cZ cO S ss.heap.size) (MQ bl (zQi D cI cZ cO S (fun r S' => S = S' ∧ r = bI ((List.range n0).any (fun j => decide (mT M (12 + 5 * p + j) = mT M q)))) ss.heap.size) aa ss rm_X6_isInLog.cells rm_X6_isInLog.slots (zA cI cZ cO S ss.heap.size)) [] 5 S 0 0 5 [some (.ref m), some (.int (nI p)), some (.int (nI q)), some (.int b), some (.int (nI i))] [] := by
    intro n
    induction n with
    | zero => intro i _ h; exact absurd h (Nat.not_lt_zero _)
    | succ n ih =>
      intro i b hm hi hb
      refine z_iload h0 dX6_isInLog_5 rfl ?_
      refine z_aload_n h0 dX6_isInLog_7 rfl ?_
      refine z_getA h0 hR 3 (by decide) fO13 rfl lk_19 dX6_isInLog_8 ?_
      refine z_iload_n h0 dX6_isInLog_11 rfl ?_
      refine z_ialdR h0 hR 3 (by decide) rfl dX6_isInLog_12 (nI_toInt (by first | omega | (dsimp only [sA, sT, mP, mM, mE] at *; omega))) (by simp only [rLen]; first | omega | (dsimp only [sA, sT, mP, mM, mE] at *; omega)) ?_
      refine z_top hn ?_
      refine z_icmp_ge (tgt := 49) h0 dX6_isInLog_13 (by decide) (fun h13 => ?_) (fun h13 => ?_)
      · refine z_iload_n h0 dX6_isInLog_49 rfl ?_
        exact z_zret h0 hr (by rw [hb]; exact bI_nar _) hlk dX6_isInLog_50 (Nat.le_of_ble_eq_true rfl) (Nat.le_of_ble_eq_true rfl) ⟨rfl, by rw [hb, Nat.le_antisymm hi (nI_geof h13 (by omega) (by omega))]⟩
      · have hlt : i < n0 := nI_ltof h13 (by omega)
        refine z_iload_n h0 dX6_isInLog_16 rfl ?_
        refine z_if_ne (tgt := 37) h0 dX6_isInLog_17 (by decide) (fun h17 => ?_) (fun h17 => ?_)
        · refine z_iconst (v := 1) h0 dX6_isInLog_37 (by decide) ?_
          refine z_goto (tgt := 42) h0 dX6_isInLog_38 (by decide) ?_
          refine z_istore_n (lo' := [_, _, _, _, _]) h0 dX6_isInLog_42 (by decide) rfl rfl ?_
          refine z_iinc (lo' := [_, _, _, _, _]) (v := nI (i + 1)) h0 dX6_isInLog_43 rfl (nI_1 i) (by decide) rfl rfl ?_
          refine z_goto (tgt := 5) h0 dX6_isInLog_46 (by decide) ?_
          exact ih (i + 1) 1 (by omega) (by omega) (by rw [any_s]; exact or_t1 hb h17)
        · refine z_aload_n h0 dX6_isInLog_20 rfl ?_
          refine z_bipush (v := 12) h0 dX6_isInLog_21 (by decide) ?_
          refine z_iconst (v := 5) h0 dX6_isInLog_23 (by decide) ?_
          refine z_iload_n h0 dX6_isInLog_24 rfl ?_
          refine z_imul h0 dX6_isInLog_25 ?_
          refine z_iadd h0 dX6_isInLog_26 ?_
          refine z_iload h0 dX6_isInLog_27 rfl ?_
          refine z_iadd h0 dX6_isInLog_29 ?_
          refine z_top (y := nI (12 + 5 * p + i)) (by rw [zc5, zc12, pk_mul, nI_add, nI_add]) ?_
          refine z_iload_n h0 dX6_isInLog_30 rfl ?_
          refine z_cVi (n := 2) (As := [_, _]) h0 hts hown (c_X6_same hR (p := 12 + 5 * p + i) (by omega) hq) gX6_isInLog_X6_same rfl (by decide +kernel) ⟨Nat.le_of_ble_eq_true rfl, Nat.le_of_ble_eq_true rfl⟩ kOk6 rfl (RF_m hR) dX6_isInLog_31 rfl rfl (Nat.le_of_ble_eq_true rfl) ⟨Nat.le_of_ble_eq_true rfl, Nat.le_of_ble_eq_true rfl⟩ (fun r31 S31 hp31 => ?_)
          obtain ⟨rfl, hr31⟩ := hp31
          refine z_if_eq (tgt := 41) h0 dX6_isInLog_34 (by decide) (fun h34 => ?_) (fun h34 => ?_)
          · refine z_iconst (v := 0) h0 dX6_isInLog_41 (by decide) ?_
            refine z_istore_n (lo' := [_, _, _, _, _]) h0 dX6_isInLog_42 (by decide) rfl rfl ?_
            refine z_iinc (lo' := [_, _, _, _, _]) (v := nI (i + 1)) h0 dX6_isInLog_43 rfl (nI_1 i) (by decide) rfl rfl ?_
            refine z_goto (tgt := 5) h0 dX6_isInLog_46 (by decide) ?_
            exact ih (i + 1) 0 (by omega) (by omega) (by rw [any_s]; exact or_f hb h17 ((flag_same hr31).1 h34))
          · refine z_iconst (v := 1) h0 dX6_isInLog_37 (by decide) ?_
            refine z_goto (tgt := 42) h0 dX6_isInLog_38 (by decide) ?_
            refine z_istore_n (lo' := [_, _, _, _, _]) h0 dX6_isInLog_42 (by decide) rfl rfl ?_
            refine z_iinc (lo' := [_, _, _, _, _]) (v := nI (i + 1)) h0 dX6_isInLog_43 rfl (nI_1 i) (by decide) rfl rfl ?_
            refine z_goto (tgt := 5) h0 dX6_isInLog_46 (by decide) ?_
            exact ih (i + 1) 1 (by omega) (by omega) (by rw [any_s]; exact or_t2 ((flag_same hr31).2 h34))
  refine z_iconst (v := 0) h0 dX6_isInLog_0 (by decide) ?_
  refine z_istore_n (lo' := [_, _, _, _, _]) h0 dX6_isInLog_1 (by decide) rfl rfl ?_
  refine z_iconst (v := 0) h0 dX6_isInLog_2 (by decide) ?_
  refine z_istore (lo' := [_, _, _, _, _]) h0 dX6_isInLog_3 (by decide) rfl rfl ?_
  exact loop (n0 + 1) 0 0 (by omega) (Nat.zero_le _) rfl

abbrev rm_X6_isKept : Room := { frames := 1, cells := 0, slots := 0, locals := 24 }
set_option maxRecDepth 100000 in
set_option maxHeartbeats 4000000 in
theorem c_X6_isKept {l : Launch} {D : va_G} {cI cZ cO : ClassId} {G : Nat → Nat} {S : PS} {m : Nat} {A : Nat → Nat} {M : MS} (hR : RF S S m A M) {q k : Nat} {x : Int32} (hq : q < 1672) (hk : k ≤ 800) : zMi l yX6_isKept wsX6_isKept rm_X6_isKept [.ref m, .int x, .int (nI q), .int (nI k)] D cI cZ cO G S (fun r S' => S = S' ∧ r = bI ((List.range k).any (fun j => decide (mA M 7 j = x ∧ mT M (872 + j) = mT M q)))) := by
  refine z_of (cc := cX6_isKept) (maxL := 6) (ret := (some .boolean)) (lo := [some (.ref m), some (.int x), some (.int (nI q)), some (.int (nI k)), none, none]) (by decide) rfl rfl (Nat.le_of_ble_eq_true rfl) rfl ?_
  intro pp ee ss mi aa bl mh cd h0 hts hown hr hlk hnm
  have hown : ss.vm.findClass RX6 = some mi.cls := hown
  have inX6 : ∀ w ∈ u_ws RX6 TX6 14, w ∈ wsX6_isKept := by decide +kernel
  have lk_31 : zLk ss mi aa RX6 31 7 11 := ⟨RX6, TX6, 14, "PurseWorldModel", wsX6_isKept, rfl, by decide, hts, inX6, hown, hts (.fieldLink RX6 31 "PurseWorldModel" "tellers" "[I") (by decide +kernel), fun _ h => h⟩
  have loop : ∀ (n i : Nat) (b : Int32), k - i < n → i ≤ k → b = bI ((List.range i).any (fun j => decide (mA M 7 j = x ∧ mT M (872 + j) = mT M q))) → ZW pp l ee rm_X6_isKept ss mi aa bl mh cd D cI cZ cO (zA cI cZ cO S ss.heap.size) (MQ bl (zQi D cI cZ cO S (fun r S' => S = S' ∧ r = bI ((List.range k).any (fun j => decide (mA M 7 j = x ∧ mT M (872 + j) = mT M q)))) ss.heap.size) aa ss rm_X6_isKept.cells rm_X6_isKept.slots (zA cI cZ cO S ss.heap.size)) [] 6 S 0 0 6 [some (.ref m), some (.int x), some (.int (nI q)), some (.int (nI k)), some (.int b), some (.int (nI i))] [] := by
    intro n
    induction n with
    | zero => intro i _ h; exact absurd h (Nat.not_lt_zero _)
    | succ n ih =>
      intro i b hm hi hb
      refine z_iload h0 dX6_isKept_6 rfl ?_
      refine z_iload_n h0 dX6_isKept_8 rfl ?_
      refine z_icmp_ge (tgt := 55) h0 dX6_isKept_9 (by decide) (fun h9 => ?_) (fun h9 => ?_)
      · refine z_iload h0 dX6_isKept_55 rfl ?_
        exact z_zret h0 hr (by rw [hb]; exact bI_nar _) hlk dX6_isKept_57 (Nat.le_of_ble_eq_true rfl) (Nat.le_of_ble_eq_true rfl) ⟨rfl, by rw [hb, Nat.le_antisymm hi (nI_geof h9 (by omega) (by omega))]⟩
      · have hlt : i < k := nI_ltof h9 (by omega)
        refine z_iload h0 dX6_isKept_12 rfl ?_
        refine z_if_ne (tgt := 42) h0 dX6_isKept_14 (by decide) (fun h14 => ?_) (fun h14 => ?_)
        · refine z_iconst (v := 1) h0 dX6_isKept_42 (by decide) ?_
          refine z_goto (tgt := 47) h0 dX6_isKept_43 (by decide) ?_
          refine z_istore (lo' := [_, _, _, _, _, _]) h0 dX6_isKept_47 (by decide) rfl rfl ?_
          refine z_iinc (lo' := [_, _, _, _, _, _]) (v := nI (i + 1)) h0 dX6_isKept_49 rfl (nI_1 i) (by decide) rfl rfl ?_
          refine z_goto (tgt := 6) h0 dX6_isKept_52 (by decide) ?_
          exact ih (i + 1) 1 (by omega) (by omega) (by rw [any_s]; exact or_t1 hb h14)
        · refine z_aload_n h0 dX6_isKept_17 rfl ?_
          refine z_getA h0 hR 7 (by decide) fO17 rfl lk_31 dX6_isKept_18 ?_
          refine z_iload h0 dX6_isKept_21 rfl ?_
          refine z_ialdR h0 hR 7 (by decide) rfl dX6_isKept_23 (nI_toInt (by first | omega | (dsimp only [sA, sT, mP, mM, mE] at *; omega))) (by simp only [rLen]; first | omega | (dsimp only [sA, sT, mP, mM, mE] at *; omega)) ?_
          refine z_iload_n h0 dX6_isKept_24 rfl ?_
          refine z_icmp_ne (tgt := 46) h0 dX6_isKept_25 (by decide) (fun h25 => ?_) (fun h25 => ?_)
          · refine z_iconst (v := 0) h0 dX6_isKept_46 (by decide) ?_
            refine z_istore (lo' := [_, _, _, _, _, _]) h0 dX6_isKept_47 (by decide) rfl rfl ?_
            refine z_iinc (lo' := [_, _, _, _, _, _]) (v := nI (i + 1)) h0 dX6_isKept_49 rfl (nI_1 i) (by decide) rfl rfl ?_
            refine z_goto (tgt := 6) h0 dX6_isKept_52 (by decide) ?_
            exact ih (i + 1) 0 (by omega) (by omega) (by rw [any_s]; exact or_f hb h14 (by simp [h25]))
          · refine z_aload_n h0 dX6_isKept_28 rfl ?_
            refine z_sipush (v := 872) h0 dX6_isKept_29 (by decide) ?_
            refine z_iload h0 dX6_isKept_32 rfl ?_
            refine z_iadd h0 dX6_isKept_34 ?_
            refine z_top (y := nI (872 + i)) (by rw [zc872, nI_add]) ?_
            refine z_iload_n h0 dX6_isKept_35 rfl ?_
            refine z_cVi (n := 2) (As := [_, _]) h0 hts hown (c_X6_same hR (p := 872 + i) (by omega) hq) gX6_isKept_X6_same rfl (by decide +kernel) ⟨Nat.le_of_ble_eq_true rfl, Nat.le_of_ble_eq_true rfl⟩ kOk6 rfl (RF_m hR) dX6_isKept_36 rfl rfl (Nat.le_of_ble_eq_true rfl) ⟨Nat.le_of_ble_eq_true rfl, Nat.le_of_ble_eq_true rfl⟩ (fun r36 S36 hp36 => ?_)
            obtain ⟨rfl, hr36⟩ := hp36
            refine z_if_eq (tgt := 46) h0 dX6_isKept_39 (by decide) (fun h39 => ?_) (fun h39 => ?_)
            · refine z_iconst (v := 0) h0 dX6_isKept_46 (by decide) ?_
              refine z_istore (lo' := [_, _, _, _, _, _]) h0 dX6_isKept_47 (by decide) rfl rfl ?_
              refine z_iinc (lo' := [_, _, _, _, _, _]) (v := nI (i + 1)) h0 dX6_isKept_49 rfl (nI_1 i) (by decide) rfl rfl ?_
              refine z_goto (tgt := 6) h0 dX6_isKept_52 (by decide) ?_
              exact ih (i + 1) 0 (by omega) (by omega) (by rw [any_s]; exact or_f hb h14 (by rw [and_dec, (flag_same hr36).1 h39, Bool.and_false]))
            · refine z_iconst (v := 1) h0 dX6_isKept_42 (by decide) ?_
              refine z_goto (tgt := 47) h0 dX6_isKept_43 (by decide) ?_
              refine z_istore (lo' := [_, _, _, _, _, _]) h0 dX6_isKept_47 (by decide) rfl rfl ?_
              refine z_iinc (lo' := [_, _, _, _, _, _]) (v := nI (i + 1)) h0 dX6_isKept_49 rfl (nI_1 i) (by decide) rfl rfl ?_
              refine z_goto (tgt := 6) h0 dX6_isKept_52 (by decide) ?_
              exact ih (i + 1) 1 (by omega) (by omega) (by rw [any_s]; exact or_t2 (by rw [and_dec, (flag_same hr36).2 h39, decide_eq_true h25]; rfl))
  refine z_iconst (v := 0) h0 dX6_isKept_0 (by decide) ?_
  refine z_istore (lo' := [_, _, _, _, _, _]) h0 dX6_isKept_1 (by decide) rfl rfl ?_
  refine z_iconst (v := 0) h0 dX6_isKept_3 (by decide) ?_
  refine z_istore (lo' := [_, _, _, _, _, _]) h0 dX6_isKept_4 (by decide) rfl rfl ?_
  exact loop (k + 1) 0 0 (by omega) (Nat.zero_le _) rfl

abbrev rm_X6_isRefunded : Room := { frames := 1, cells := 0, slots := 0, locals := 24 }
set_option maxRecDepth 100000 in
set_option maxHeartbeats 4000000 in
theorem c_X6_isRefunded {l : Launch} {D : va_G} {cI cZ cO : ClassId} {G : Nat → Nat} {S : PS} {m : Nat} {A : Nat → Nat} {M : MS} (hR : RF S S m A M) {q : Nat} (hq : q < 1672) (hk : mE M ≤ 800) : zMi l yX6_isRefunded wsX6_isRefunded rm_X6_isRefunded [.ref m, .int (nI q)] D cI cZ cO G S (fun r S' => S = S' ∧ r = bI ((List.range (mE M)).any (fun j => decide (¬ mA M 8 j = 0 ∧ mT M (872 + j) = mT M q)))) := by
  refine z_of (cc := cX6_isRefunded) (maxL := 4) (ret := (some .boolean)) (lo := [some (.ref m), some (.int (nI q)), none, none]) (by decide) rfl rfl (Nat.le_of_ble_eq_true rfl) rfl ?_
  intro pp ee ss mi aa bl mh cd h0 hts hown hr hlk hnm
  have hown : ss.vm.findClass RX6 = some mi.cls := hown
  have inX6 : ∀ w ∈ u_ws RX6 TX6 14, w ∈ wsX6_isRefunded := by decide +kernel
  have lk_34 : zLk ss mi aa RX6 34 7 12 := ⟨RX6, TX6, 14, "PurseWorldModel", wsX6_isRefunded, rfl, by decide, hts, inX6, hown, hts (.fieldLink RX6 34 "PurseWorldModel" "refunded" "[Z") (by decide +kernel), fun _ h => h⟩
  have lk_56 : zLk ss mi aa RX6 56 7 10 := ⟨RX6, TX6, 14, "PurseWorldModel", wsX6_isRefunded, rfl, by decide, hts, inX6, hown, hts (.fieldLink RX6 56 "PurseWorldModel" "entries" "I") (by decide +kernel), fun _ h => h⟩
  have loop : ∀ (n i : Nat) (b : Int32), mE M - i < n → i ≤ mE M → b = bI ((List.range i).any (fun j => decide (¬ mA M 8 j = 0 ∧ mT M (872 + j) = mT M q))) → ZW pp l ee rm_X6_isRefunded ss mi aa bl mh cd D cI cZ cO (zA cI cZ cO S ss.heap.size) (MQ bl (zQi D cI cZ cO S (fun r S' => S = S' ∧ r = bI ((List.range (mE M)).any (fun j => decide (¬ mA M 8 j = 0 ∧ mT M (872 + j) = mT M q)))) ss.heap.size) aa ss rm_X6_isRefunded.cells rm_X6_isRefunded.slots (zA cI cZ cO S ss.heap.size)) [] 4 S 0 0 4 [some (.ref m), some (.int (nI q)), some (.int b), some (.int (nI i))] [] := by
    intro n
    induction n with
    | zero => intro i _ h; exact absurd h (Nat.not_lt_zero _)
    | succ n ih =>
      intro i b hm hi hb
      refine z_iload_n h0 dX6_isRefunded_4 rfl ?_
      refine z_aload_n h0 dX6_isRefunded_5 rfl ?_
      refine z_getSE h0 hR fI18 lk_56 dX6_isRefunded_6 ?_
      refine z_icmp_ge (tgt := 50) h0 dX6_isRefunded_9 (by decide) (fun h9 => ?_) (fun h9 => ?_)
      · refine z_iload_n h0 dX6_isRefunded_50 rfl ?_
        exact z_zret h0 hr (by rw [hb]; exact bI_nar _) hlk dX6_isRefunded_51 (Nat.le_of_ble_eq_true rfl) (Nat.le_of_ble_eq_true rfl) ⟨rfl, by rw [hb, Nat.le_antisymm hi (nI_geof h9 (by omega) (by omega))]⟩
      · have hlt : i < mE M := nI_ltof h9 (by omega)
        refine z_iload_n h0 dX6_isRefunded_12 rfl ?_
        refine z_if_ne (tgt := 38) h0 dX6_isRefunded_13 (by decide) (fun h13 => ?_) (fun h13 => ?_)
        · refine z_iconst (v := 1) h0 dX6_isRefunded_38 (by decide) ?_
          refine z_goto (tgt := 43) h0 dX6_isRefunded_39 (by decide) ?_
          refine z_istore_n (lo' := [_, _, _, _]) h0 dX6_isRefunded_43 (by decide) rfl rfl ?_
          refine z_iinc (lo' := [_, _, _, _]) (v := nI (i + 1)) h0 dX6_isRefunded_44 rfl (nI_1 i) (by decide) rfl rfl ?_
          refine z_goto (tgt := 4) h0 dX6_isRefunded_47 (by decide) ?_
          exact ih (i + 1) 1 (by omega) (by omega) (by rw [any_s]; exact or_t1 hb h13)
        · refine z_aload_n h0 dX6_isRefunded_16 rfl ?_
          refine z_getA h0 hR 8 (by decide) fO18 rfl lk_34 dX6_isRefunded_17 ?_
          refine z_iload_n h0 dX6_isRefunded_20 rfl ?_
          refine z_zaldR h0 hR dX6_isRefunded_21 (nI_toInt (by first | omega | (dsimp only [sA, sT, mP, mM, mE] at *; omega))) (by first | omega | (dsimp only [sA, sT, mP, mM, mE] at *; omega)) ?_
          refine z_if_eq (tgt := 42) h0 dX6_isRefunded_22 (by decide) (fun h22 => ?_) (fun h22 => ?_)
          · refine z_iconst (v := 0) h0 dX6_isRefunded_42 (by decide) ?_
            refine z_istore_n (lo' := [_, _, _, _]) h0 dX6_isRefunded_43 (by decide) rfl rfl ?_
            refine z_iinc (lo' := [_, _, _, _]) (v := nI (i + 1)) h0 dX6_isRefunded_44 rfl (nI_1 i) (by decide) rfl rfl ?_
            refine z_goto (tgt := 4) h0 dX6_isRefunded_47 (by decide) ?_
            exact ih (i + 1) 0 (by omega) (by omega) (by rw [any_s]; exact or_f hb h13 (by simp [h22]))
          · refine z_aload_n h0 dX6_isRefunded_25 rfl ?_
            refine z_sipush (v := 872) h0 dX6_isRefunded_26 (by decide) ?_
            refine z_iload_n h0 dX6_isRefunded_29 rfl ?_
            refine z_iadd h0 dX6_isRefunded_30 ?_
            refine z_top (y := nI (872 + i)) (by rw [zc872, nI_add]) ?_
            refine z_iload_n h0 dX6_isRefunded_31 rfl ?_
            refine z_cVi (n := 2) (As := [_, _]) h0 hts hown (c_X6_same hR (p := 872 + i) (by omega) hq) gX6_isRefunded_X6_same rfl (by decide +kernel) ⟨Nat.le_of_ble_eq_true rfl, Nat.le_of_ble_eq_true rfl⟩ kOk6 rfl (RF_m hR) dX6_isRefunded_32 rfl rfl (Nat.le_of_ble_eq_true rfl) ⟨Nat.le_of_ble_eq_true rfl, Nat.le_of_ble_eq_true rfl⟩ (fun r32 S32 hp32 => ?_)
            obtain ⟨rfl, hr32⟩ := hp32
            refine z_if_eq (tgt := 42) h0 dX6_isRefunded_35 (by decide) (fun h35 => ?_) (fun h35 => ?_)
            · refine z_iconst (v := 0) h0 dX6_isRefunded_42 (by decide) ?_
              refine z_istore_n (lo' := [_, _, _, _]) h0 dX6_isRefunded_43 (by decide) rfl rfl ?_
              refine z_iinc (lo' := [_, _, _, _]) (v := nI (i + 1)) h0 dX6_isRefunded_44 rfl (nI_1 i) (by decide) rfl rfl ?_
              refine z_goto (tgt := 4) h0 dX6_isRefunded_47 (by decide) ?_
              exact ih (i + 1) 0 (by omega) (by omega) (by rw [any_s]; exact or_f hb h13 (by rw [and_dec, (flag_same hr32).1 h35, Bool.and_false]))
            · refine z_iconst (v := 1) h0 dX6_isRefunded_38 (by decide) ?_
              refine z_goto (tgt := 43) h0 dX6_isRefunded_39 (by decide) ?_
              refine z_istore_n (lo' := [_, _, _, _]) h0 dX6_isRefunded_43 (by decide) rfl rfl ?_
              refine z_iinc (lo' := [_, _, _, _]) (v := nI (i + 1)) h0 dX6_isRefunded_44 rfl (nI_1 i) (by decide) rfl rfl ?_
              refine z_goto (tgt := 4) h0 dX6_isRefunded_47 (by decide) ?_
              exact ih (i + 1) 1 (by omega) (by omega) (by rw [any_s]; exact or_t2 (by rw [and_dec, (flag_same hr32).2 h35, decide_eq_true h22]; rfl))
  refine z_iconst (v := 0) h0 dX6_isRefunded_0 (by decide) ?_
  refine z_istore_n (lo' := [_, _, _, _]) h0 dX6_isRefunded_1 (by decide) rfl rfl ?_
  refine z_iconst (v := 0) h0 dX6_isRefunded_2 (by decide) ?_
  refine z_istore_n (lo' := [_, _, _, _]) h0 dX6_isRefunded_3 (by decide) rfl rfl ?_
  exact loop (mE M + 1) 0 0 (by omega) (Nat.zero_le _) rfl

/-- a message more -/
def mSend (M : MS) (k to : Int32) (q : Nat) : MS := (mP M, mM M + 1, mE M, up2 (up2 (mA M) 4 (mM M) k) 5 (mM M) to, va_up (mT M) (72 + mM M) (mT M q))

abbrev rm_X6_send : Room := { frames := 1, cells := 0, slots := 0, locals := 23 }
set_option maxRecDepth 100000 in
set_option maxHeartbeats 4000000 in
theorem c_X6_send {l : Launch} {D : va_G} {cI cZ cO : ClassId} {G : Nat → Nat} {S : PS} {m : Nat} {A : Nat → Nat} {M : MS} (hR : RF S S m A M) {q : Nat} {x y : Int32} (hm8 : mM M < 800) (hq : q < 1672) : zMv l yX6_send wsX6_send rm_X6_send [.ref m, .int x, .int y, .int (nI q)] D cI cZ cO G S (fun S' => RF S S' m A (mSend M x y q)) := by
  refine z_of (cc := cX6_send) (maxL := 4) (ret := none) (lo := [some (.ref m), some (.int x), some (.int y), some (.int (nI q))]) (by decide) rfl rfl (Nat.le_of_ble_eq_true rfl) rfl ?_
  intro pp ee ss mi aa bl mh cd h0 hts hown hr hlk hnm
  have hown : ss.vm.findClass RX6 = some mi.cls := hown
  have inX6 : ∀ w ∈ u_ws RX6 TX6 14, w ∈ wsX6_send := by decide +kernel
  have lk_22 : zLk ss mi aa RX6 22 7 7 := ⟨RX6, TX6, 14, "PurseWorldModel", wsX6_send, rfl, by decide, hts, inX6, hown, hts (.fieldLink RX6 22 "PurseWorldModel" "kinds" "[I") (by decide +kernel), fun _ h => h⟩
  have lk_25 : zLk ss mi aa RX6 25 7 8 := ⟨RX6, TX6, 14, "PurseWorldModel", wsX6_send, rfl, by decide, hts, inX6, hown, hts (.fieldLink RX6 25 "PurseWorldModel" "targets" "[I") (by decide +kernel), fun _ h => h⟩
  have lk_59 : zLk ss mi aa RX6 59 7 6 := ⟨RX6, TX6, 14, "PurseWorldModel", wsX6_send, rfl, by decide, hts, inX6, hown, hts (.fieldLink RX6 59 "PurseWorldModel" "messages" "I") (by decide +kernel), fun _ h => h⟩
  have lp_59 : zLp ss mi aa mh RX6 59 7 6 .int := ⟨RX6, TX6, 14, "PurseWorldModel", wsX6_send, tyX6, rfl, by decide, hts, inX6, hown, hts (.fieldLink RX6 59 "PurseWorldModel" "messages" "I") (by decide +kernel), fun _ h => h, tyX6_ok, nmX6, by decide +kernel, Or.inl rfl⟩
  refine z_aload_n h0 dX6_send_0 rfl ?_
  refine z_getA h0 hR 4 (by decide) fO14 rfl lk_22 dX6_send_1 ?_
  refine z_aload_n h0 dX6_send_4 rfl ?_
  refine z_getSM h0 hR fI17 lk_59 dX6_send_5 ?_
  refine z_iload_n h0 dX6_send_8 rfl ?_
  refine z_iastR h0 hR 4 (by decide) rfl dX6_send_9 (nI_toInt (by first | omega | (dsimp only [sA, sT, mP, mM, mE] at *; omega))) (by simp only [rLen]; first | omega | (dsimp only [sA, sT, mP, mM, mE] at *; omega)) (fun hR => ?_)
  refine z_aload_n h0 dX6_send_10 rfl ?_
  refine z_getA h0 hR 5 (by decide) fO15 rfl lk_25 dX6_send_11 ?_
  refine z_aload_n h0 dX6_send_14 rfl ?_
  refine z_getSM h0 hR fI17 lk_59 dX6_send_15 ?_
  refine z_iload_n h0 dX6_send_18 rfl ?_
  refine z_iastR h0 hR 5 (by decide) rfl dX6_send_19 (nI_toInt (by first | omega | (dsimp only [sA, sT, mP, mM, mE] at *; omega))) (by simp only [rLen]; first | omega | (dsimp only [sA, sT, mP, mM, mE] at *; omega)) (fun hR => ?_)
  refine z_aload_n h0 dX6_send_20 rfl ?_
  refine z_iload_n h0 dX6_send_21 rfl ?_
  refine z_bipush (v := 72) h0 dX6_send_22 (by decide) ?_
  refine z_aload_n h0 dX6_send_24 rfl ?_
  refine z_getSM h0 hR fI17 lk_59 dX6_send_25 ?_
  refine z_iadd h0 dX6_send_28 ?_
  refine z_top (y := nI (72 + mM M)) (by rw [zc72, nI_add]) ?_
  refine z_cVv (n := 2) (As := [_, _]) h0 hts hown (c_X6_copy (RF_refl hR) hq (q := 72 + mM M) (by omega)) gX6_send_X6_copy rfl (by decide +kernel) ⟨Nat.le_of_ble_eq_true rfl, Nat.le_of_ble_eq_true rfl⟩ kOk6 rfl (RF_m hR) dX6_send_29 rfl rfl (Nat.le_of_ble_eq_true rfl) ⟨Nat.le_of_ble_eq_true rfl, Nat.le_of_ble_eq_true rfl⟩ (fun S29 hp29 => ?_)
  have hR := RF_trans hR hp29
  refine z_aload_n h0 dX6_send_32 rfl ?_
  refine z_dup h0 dX6_send_33 rfl ?_
  refine z_getSM h0 hR fI17 lk_59 dX6_send_34 ?_
  refine z_iconst (v := 1) h0 dX6_send_37 (by decide) ?_
  refine z_iadd h0 dX6_send_38 ?_
  refine z_putM h0 hR fI17 lp_59 dX6_send_39 (nI_1 _) (fun hR => ?_)
  exact z_vret h0 hr hlk dX6_send_42 (Nat.le_of_ble_eq_true rfl) (Nat.le_of_ble_eq_true rfl) hR

/-- how many are in the log of p -/
def lnN (M : MS) (p : Nat) : Nat := (mA M 3 p).toNatClampNeg
theorem lnN_of {M : MS} {p n : Nat} (h : mA M 3 p = nI n) (hn : n < 2 ^ 31) : lnN M p = n := by unfold lnN; rw [h]; exact nI_clamp hn
def mLog (M : MS) (p : Nat) : MS := if 2 ≤ mA M 2 p then sA (sT M (12 + 5 * p + lnN M p) (mT M p)) 3 p (mA M 3 p + 1) else M
/-- a purse ends what it does -/
def mEnd (M : MS) (p : Nat) : MS := sA (sA (mLog M p) 1 p (mA M 1 p + if mA M 2 p = 0 then 0 else 1)) 2 p 0
theorem mLog_2 {M : MS} {p : Nat} : mA (mLog M p) 2 p = mA M 2 p := by
  unfold mLog
  by_cases h : 2 ≤ mA M 2 p
  · rw [if_pos h]; exact mA_f (M := sT M _ _) (by decide)
  · rw [if_neg h]
theorem mLog_1 {M : MS} {p : Nat} : mA (mLog M p) 1 p = mA M 1 p := by
  unfold mLog
  by_cases h : 2 ≤ mA M 2 p
  · rw [if_pos h]; exact mA_f (M := sT M _ _) (by decide)
  · rw [if_neg h]

abbrev rm_X6_endIt : Room := { frames := 1, cells := 0, slots := 0, locals := 23 }
set_option maxRecDepth 100000 in
set_option maxHeartbeats 4000000 in
theorem c_X6_endIt {l : Launch} {D : va_G} {cI cZ cO : ClassId} {G : Nat → Nat} {S : PS} {m : Nat} {A : Nat → Nat} {M : MS} (hR : RF S S m A M) {p n0 : Nat} (hp : p < 12) (hn : mA M 3 p = nI n0) (hn5 : n0 ≤ 5) : zMv l yX6_endIt wsX6_endIt rm_X6_endIt [.ref m, .int (nI p)] D cI cZ cO G S (fun S' => RF S S' m A (mEnd M p)) := by
  refine z_of (cc := cX6_endIt) (maxL := 2) (ret := none) (lo := [some (.ref m), some (.int (nI p))]) (by decide) rfl rfl (Nat.le_of_ble_eq_true rfl) rfl ?_
  intro pp ee ss mi aa bl mh cd h0 hts hown hr hlk hnm
  have hown : ss.vm.findClass RX6 = some mi.cls := hown
  have inX6 : ∀ w ∈ u_ws RX6 TX6 14, w ∈ wsX6_endIt := by decide +kernel
  have lk_13 : zLk ss mi aa RX6 13 7 3 := ⟨RX6, TX6, 14, "PurseWorldModel", wsX6_endIt, rfl, by decide, hts, inX6, hown, hts (.fieldLink RX6 13 "PurseWorldModel" "serials" "[I") (by decide +kernel), fun _ h => h⟩
  have lk_16 : zLk ss mi aa RX6 16 7 4 := ⟨RX6, TX6, 14, "PurseWorldModel", wsX6_endIt, rfl, by decide, hts, inX6, hown, hts (.fieldLink RX6 16 "PurseWorldModel" "states" "[I") (by decide +kernel), fun _ h => h⟩
  have lk_19 : zLk ss mi aa RX6 19 7 5 := ⟨RX6, TX6, 14, "PurseWorldModel", wsX6_endIt, rfl, by decide, hts, inX6, hown, hts (.fieldLink RX6 19 "PurseWorldModel" "logSize" "[I") (by decide +kernel), fun _ h => h⟩
  refine z_aload_n h0 dX6_endIt_0 rfl ?_
  refine z_getA h0 hR 2 (by decide) fO12 rfl lk_16 dX6_endIt_1 ?_
  refine z_iload_n h0 dX6_endIt_4 rfl ?_
  refine z_ialdR h0 hR 2 (by decide) rfl dX6_endIt_5 (nI_toInt (by first | omega | (dsimp only [sA, sT, mP, mM, mE] at *; omega))) (by simp only [rLen]; first | omega | (dsimp only [sA, sT, mP, mM, mE] at *; omega)) ?_
  refine z_iconst (v := 2) h0 dX6_endIt_6 (by decide) ?_
  refine z_icmp_lt (tgt := 38) h0 dX6_endIt_7 (by decide) (fun h7 => ?_) (fun h7 => ?_)
  · have hR : RF S _ m A (mLog M p) := (show M = mLog M p by unfold mLog; rw [if_neg (k2_nle h7)]) ▸ hR
    refine z_aload_n h0 dX6_endIt_38 rfl ?_
    refine z_getA h0 hR 1 (by decide) fO11 rfl lk_13 dX6_endIt_39 ?_
    refine z_iload_n h0 dX6_endIt_42 rfl ?_
    refine z_dup2 h0 dX6_endIt_43 rfl rfl ?_
    refine z_ialdR h0 hR 1 (by decide) rfl dX6_endIt_44 (nI_toInt (by first | omega | (dsimp only [sA, sT, mP, mM, mE] at *; omega))) (by simp only [rLen]; first | omega | (dsimp only [sA, sT, mP, mM, mE] at *; omega)) ?_
    refine z_top mLog_1 ?_
    refine z_aload_n h0 dX6_endIt_45 rfl ?_
    refine z_getA h0 hR 2 (by decide) fO12 rfl lk_16 dX6_endIt_46 ?_
    refine z_iload_n h0 dX6_endIt_49 rfl ?_
    refine z_ialdR h0 hR 2 (by decide) rfl dX6_endIt_50 (nI_toInt (by first | omega | (dsimp only [sA, sT, mP, mM, mE] at *; omega))) (by simp only [rLen]; first | omega | (dsimp only [sA, sT, mP, mM, mE] at *; omega)) ?_
    refine z_top mLog_2 ?_
    refine z_if_ne (tgt := 58) h0 dX6_endIt_51 (by decide) (fun h51 => ?_) (fun h51 => ?_)
    · refine z_iconst (v := 1) h0 dX6_endIt_58 (by decide) ?_
      refine z_iadd h0 dX6_endIt_59 ?_
      refine z_iastR h0 hR 1 (by decide) rfl dX6_endIt_60 (nI_toInt (by first | omega | (dsimp only [sA, sT, mP, mM, mE] at *; omega))) (by simp only [rLen]; first | omega | (dsimp only [sA, sT, mP, mM, mE] at *; omega)) (fun hR => ?_)
      refine z_aload_n h0 dX6_endIt_61 rfl ?_
      refine z_getA h0 hR 2 (by decide) fO12 rfl lk_16 dX6_endIt_62 ?_
      refine z_iload_n h0 dX6_endIt_65 rfl ?_
      refine z_iconst (v := 0) h0 dX6_endIt_66 (by decide) ?_
      refine z_iastR h0 hR 2 (by decide) rfl dX6_endIt_67 (nI_toInt (by first | omega | (dsimp only [sA, sT, mP, mM, mE] at *; omega))) (by simp only [rLen]; first | omega | (dsimp only [sA, sT, mP, mM, mE] at *; omega)) (fun hR => ?_)
      exact z_vret h0 hr hlk dX6_endIt_68 (Nat.le_of_ble_eq_true rfl) (Nat.le_of_ble_eq_true rfl) (by unfold mEnd; rw [if_neg h51]; exact hR)
    · refine z_iconst (v := 0) h0 dX6_endIt_54 (by decide) ?_
      refine z_goto (tgt := 59) h0 dX6_endIt_55 (by decide) ?_
      refine z_iadd h0 dX6_endIt_59 ?_
      refine z_iastR h0 hR 1 (by decide) rfl dX6_endIt_60 (nI_toInt (by first | omega | (dsimp only [sA, sT, mP, mM, mE] at *; omega))) (by simp only [rLen]; first | omega | (dsimp only [sA, sT, mP, mM, mE] at *; omega)) (fun hR => ?_)
      refine z_aload_n h0 dX6_endIt_61 rfl ?_
      refine z_getA h0 hR 2 (by decide) fO12 rfl lk_16 dX6_endIt_62 ?_
      refine z_iload_n h0 dX6_endIt_65 rfl ?_
      refine z_iconst (v := 0) h0 dX6_endIt_66 (by decide) ?_
      refine z_iastR h0 hR 2 (by decide) rfl dX6_endIt_67 (nI_toInt (by first | omega | (dsimp only [sA, sT, mP, mM, mE] at *; omega))) (by simp only [rLen]; first | omega | (dsimp only [sA, sT, mP, mM, mE] at *; omega)) (fun hR => ?_)
      exact z_vret h0 hr hlk dX6_endIt_68 (Nat.le_of_ble_eq_true rfl) (Nat.le_of_ble_eq_true rfl) (by unfold mEnd; rw [if_pos h51]; exact hR)
  · refine z_aload_n h0 dX6_endIt_10 rfl ?_
    refine z_iload_n h0 dX6_endIt_11 rfl ?_
    refine z_bipush (v := 12) h0 dX6_endIt_12 (by decide) ?_
    refine z_iconst (v := 5) h0 dX6_endIt_14 (by decide) ?_
    refine z_iload_n h0 dX6_endIt_15 rfl ?_
    refine z_imul h0 dX6_endIt_16 ?_
    refine z_iadd h0 dX6_endIt_17 ?_
    refine z_aload_n h0 dX6_endIt_18 rfl ?_
    refine z_getA h0 hR 3 (by decide) fO13 rfl lk_19 dX6_endIt_19 ?_
    refine z_iload_n h0 dX6_endIt_22 rfl ?_
    refine z_ialdR h0 hR 3 (by decide) rfl dX6_endIt_23 (nI_toInt (by first | omega | (dsimp only [sA, sT, mP, mM, mE] at *; omega))) (by simp only [rLen]; first | omega | (dsimp only [sA, sT, mP, mM, mE] at *; omega)) ?_
    refine z_top hn ?_
    refine z_iadd h0 dX6_endIt_24 ?_
    refine z_top (y := nI (12 + 5 * p + n0)) (by rw [zc5, zc12, pk_mul, nI_add, nI_add]) ?_
    refine z_cVv (n := 2) (As := [_, _]) h0 hts hown (c_X6_copy (RF_refl hR) (p := p) (q := 12 + 5 * p + n0) (by omega) (by omega)) gX6_endIt_X6_copy rfl (by decide +kernel) ⟨Nat.le_of_ble_eq_true rfl, Nat.le_of_ble_eq_true rfl⟩ kOk6 rfl (RF_m hR) dX6_endIt_25 rfl rfl (Nat.le_of_ble_eq_true rfl) ⟨Nat.le_of_ble_eq_true rfl, Nat.le_of_ble_eq_true rfl⟩ (fun S25 hp25 => ?_)
    have hR := RF_trans hR hp25
    refine z_aload_n h0 dX6_endIt_28 rfl ?_
    refine z_getA h0 hR 3 (by decide) fO13 rfl lk_19 dX6_endIt_29 ?_
    refine z_iload_n h0 dX6_endIt_32 rfl ?_
    refine z_dup2 h0 dX6_endIt_33 rfl rfl ?_
    refine z_ialdR h0 hR 3 (by decide) rfl dX6_endIt_34 (nI_toInt (by first | omega | (dsimp only [sA, sT, mP, mM, mE] at *; omega))) (by simp only [rLen]; first | omega | (dsimp only [sA, sT, mP, mM, mE] at *; omega)) ?_
    refine z_iconst (v := 1) h0 dX6_endIt_35 (by decide) ?_
    refine z_iadd h0 dX6_endIt_36 ?_
    refine z_iastR h0 hR 3 (by decide) rfl dX6_endIt_37 (nI_toInt (by first | omega | (dsimp only [sA, sT, mP, mM, mE] at *; omega))) (by simp only [rLen]; first | omega | (dsimp only [sA, sT, mP, mM, mE] at *; omega)) (fun hR => ?_)
    have hR : RF S _ m A (mLog M p) := (show sA (sT M (12 + 5 * p + n0) (mT M p)) 3 p (mA M 3 p + 1) = mLog M p by unfold mLog; rw [if_pos (k2_le h7), lnN_of hn (by omega)]) ▸ hR
    refine z_aload_n h0 dX6_endIt_38 rfl ?_
    refine z_getA h0 hR 1 (by decide) fO11 rfl lk_13 dX6_endIt_39 ?_
    refine z_iload_n h0 dX6_endIt_42 rfl ?_
    refine z_dup2 h0 dX6_endIt_43 rfl rfl ?_
    refine z_ialdR h0 hR 1 (by decide) rfl dX6_endIt_44 (nI_toInt (by first | omega | (dsimp only [sA, sT, mP, mM, mE] at *; omega))) (by simp only [rLen]; first | omega | (dsimp only [sA, sT, mP, mM, mE] at *; omega)) ?_
    refine z_top mLog_1 ?_
    refine z_aload_n h0 dX6_endIt_45 rfl ?_
    refine z_getA h0 hR 2 (by decide) fO12 rfl lk_16 dX6_endIt_46 ?_
    refine z_iload_n h0 dX6_endIt_49 rfl ?_
    refine z_ialdR h0 hR 2 (by decide) rfl dX6_endIt_50 (nI_toInt (by first | omega | (dsimp only [sA, sT, mP, mM, mE] at *; omega))) (by simp only [rLen]; first | omega | (dsimp only [sA, sT, mP, mM, mE] at *; omega)) ?_
    refine z_top mLog_2 ?_
    refine z_if_ne (tgt := 58) h0 dX6_endIt_51 (by decide) (fun h51 => ?_) (fun h51 => ?_)
    · refine z_iconst (v := 1) h0 dX6_endIt_58 (by decide) ?_
      refine z_iadd h0 dX6_endIt_59 ?_
      refine z_iastR h0 hR 1 (by decide) rfl dX6_endIt_60 (nI_toInt (by first | omega | (dsimp only [sA, sT, mP, mM, mE] at *; omega))) (by simp only [rLen]; first | omega | (dsimp only [sA, sT, mP, mM, mE] at *; omega)) (fun hR => ?_)
      refine z_aload_n h0 dX6_endIt_61 rfl ?_
      refine z_getA h0 hR 2 (by decide) fO12 rfl lk_16 dX6_endIt_62 ?_
      refine z_iload_n h0 dX6_endIt_65 rfl ?_
      refine z_iconst (v := 0) h0 dX6_endIt_66 (by decide) ?_
      refine z_iastR h0 hR 2 (by decide) rfl dX6_endIt_67 (nI_toInt (by first | omega | (dsimp only [sA, sT, mP, mM, mE] at *; omega))) (by simp only [rLen]; first | omega | (dsimp only [sA, sT, mP, mM, mE] at *; omega)) (fun hR => ?_)
      exact z_vret h0 hr hlk dX6_endIt_68 (Nat.le_of_ble_eq_true rfl) (Nat.le_of_ble_eq_true rfl) (by unfold mEnd; rw [if_neg h51]; exact hR)
    · refine z_iconst (v := 0) h0 dX6_endIt_54 (by decide) ?_
      refine z_goto (tgt := 59) h0 dX6_endIt_55 (by decide) ?_
      refine z_iadd h0 dX6_endIt_59 ?_
      refine z_iastR h0 hR 1 (by decide) rfl dX6_endIt_60 (nI_toInt (by first | omega | (dsimp only [sA, sT, mP, mM, mE] at *; omega))) (by simp only [rLen]; first | omega | (dsimp only [sA, sT, mP, mM, mE] at *; omega)) (fun hR => ?_)
      refine z_aload_n h0 dX6_endIt_61 rfl ?_
      refine z_getA h0 hR 2 (by decide) fO12 rfl lk_16 dX6_endIt_62 ?_
      refine z_iload_n h0 dX6_endIt_65 rfl ?_
      refine z_iconst (v := 0) h0 dX6_endIt_66 (by decide) ?_
      refine z_iastR h0 hR 2 (by decide) rfl dX6_endIt_67 (nI_toInt (by first | omega | (dsimp only [sA, sT, mP, mM, mE] at *; omega))) (by simp only [rLen]; first | omega | (dsimp only [sA, sT, mP, mM, mE] at *; omega)) (fun hR => ?_)
      exact z_vret h0 hr hlk dX6_endIt_68 (Nat.le_of_ble_eq_true rfl) (Nat.le_of_ble_eq_true rfl) (by unfold mEnd; rw [if_pos h51]; exact hR)

abbrev rm_X6_waits : Room := { frames := 1, cells := 0, slots := 0, locals := 24 }
set_option maxRecDepth 100000 in
set_option maxHeartbeats 4000000 in
theorem c_X6_waits {l : Launch} {D : va_G} {cI cZ cO : ClassId} {G : Nat → Nat} {S : PS} {m : Nat} {A : Nat → Nat} {M : MS} (hR : RF S S m A M) {p q : Nat} {x : Int32} (hp : p < 12) (hq : q < 1672) : zMi l yX6_waits wsX6_waits rm_X6_waits [.ref m, .int (nI p), .int x, .int (nI q)] D cI cZ cO G S (fun r S' => S = S' ∧ r = bI (decide (mA M 2 p = x ∧ mT M p = mT M q))) := by
  refine z_of (cc := cX6_waits) (maxL := 4) (ret := (some .boolean)) (lo := [some (.ref m), some (.int (nI p)), some (.int x), some (.int (nI q))]) (by decide) rfl rfl (Nat.le_of_ble_eq_true rfl) rfl ?_
  intro pp ee ss mi aa bl mh cd h0 hts hown hr hlk hnm
  have hown : ss.vm.findClass RX6 = some mi.cls := hown
  have inX6 : ∀ w ∈ u_ws RX6 TX6 14, w ∈ wsX6_waits := by decide +kernel
  have lk_16 : zLk ss mi aa RX6 16 7 4 := ⟨RX6, TX6, 14, "PurseWorldModel", wsX6_waits, rfl, by decide, hts, inX6, hown, hts (.fieldLink RX6 16 "PurseWorldModel" "states" "[I") (by decide +kernel), fun _ h => h⟩
  refine z_aload_n h0 dX6_waits_0 rfl ?_
  refine z_getA h0 hR 2 (by decide) fO12 rfl lk_16 dX6_waits_1 ?_
  refine z_iload_n h0 dX6_waits_4 rfl ?_
  refine z_ialdR h0 hR 2 (by decide) rfl dX6_waits_5 (nI_toInt (by first | omega | (dsimp only [sA, sT, mP, mM, mE] at *; omega))) (by simp only [rLen]; first | omega | (dsimp only [sA, sT, mP, mM, mE] at *; omega)) ?_
  refine z_iload_n h0 dX6_waits_6 rfl ?_
  refine z_icmp_ne (tgt := 23) h0 dX6_waits_7 (by decide) (fun h7 => ?_) (fun h7 => ?_)
  · refine z_iconst (v := 0) h0 dX6_waits_23 (by decide) ?_
    exact z_zret h0 hr rfl hlk dX6_waits_24 (Nat.le_of_ble_eq_true rfl) (Nat.le_of_ble_eq_true rfl) ⟨rfl, by rw [and_dec, decide_eq_false h7]; rfl⟩
  · refine z_aload_n h0 dX6_waits_10 rfl ?_
    refine z_iload_n h0 dX6_waits_11 rfl ?_
    refine z_iload_n h0 dX6_waits_12 rfl ?_
    refine z_cVi (n := 2) (As := [_, _]) h0 hts hown (c_X6_same hR (p := p) (by omega) hq) gX6_waits_X6_same rfl (by decide +kernel) ⟨Nat.le_of_ble_eq_true rfl, Nat.le_of_ble_eq_true rfl⟩ kOk6 rfl (RF_m hR) dX6_waits_13 rfl rfl (Nat.le_of_ble_eq_true rfl) ⟨Nat.le_of_ble_eq_true rfl, Nat.le_of_ble_eq_true rfl⟩ (fun r13 S13 hp13 => ?_)
    obtain ⟨rfl, hr13⟩ := hp13
    refine z_if_eq (tgt := 23) h0 dX6_waits_16 (by decide) (fun h16 => ?_) (fun h16 => ?_)
    · refine z_iconst (v := 0) h0 dX6_waits_23 (by decide) ?_
      exact z_zret h0 hr rfl hlk dX6_waits_24 (Nat.le_of_ble_eq_true rfl) (Nat.le_of_ble_eq_true rfl) ⟨rfl, by rw [and_dec, (flag_same hr13).1 h16, Bool.and_false]; rfl⟩
    · refine z_iconst (v := 1) h0 dX6_waits_19 (by decide) ?_
      refine z_goto (tgt := 24) h0 dX6_waits_20 (by decide) ?_
      exact z_zret h0 hr rfl hlk dX6_waits_24 (Nat.le_of_ble_eq_true rfl) (Nat.le_of_ble_eq_true rfl) ⟨rfl, by rw [and_dec, (flag_same hr13).2 h16, decide_eq_true h7]; rfl⟩

end REFMID
