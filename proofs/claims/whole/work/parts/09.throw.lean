/-! THE FOUR EXCEPTIONS: the words that a throw wants, out of a method's own list and what stays of the start. -/
section THROWN
/-- the words of a throw that are told of the start -/
def xe_B (E : String) : List Cond := [.declares (Jvm.Bundle.initS "java/lang/RuntimeException"), .declares (Jvm.Bundle.initS "java/lang/Exception"), .declares (Jvm.Bundle.initS "java/lang/Throwable"), .castable E E]
theorem xe_bad0 : (vx_atS RX5 40 "java/lang/IllegalArgumentException" ["java/lang/RuntimeException", "java/lang/Exception"]).filter (fun w => !goodWord w) = xe_B "java/lang/IllegalArgumentException" := by decide +kernel
theorem xe_bad1 : (vx_atS RX5 51 "java/lang/UnsupportedOperationException" ["java/lang/RuntimeException", "java/lang/Exception"]).filter (fun w => !goodWord w) = xe_B "java/lang/UnsupportedOperationException" := by decide +kernel
theorem xe_bad2 : (vx_atS RX5 198 "java/lang/IndexOutOfBoundsException" ["java/lang/RuntimeException", "java/lang/Exception"]).filter (fun w => !goodWord w) = xe_B "java/lang/IndexOutOfBoundsException" := by decide +kernel
theorem xe_bad3 : (vx_atS RX5 133 "java/lang/IllegalStateException" ["java/lang/RuntimeException", "java/lang/Exception"]).filter (fun w => !goodWord w) = xe_B "java/lang/IllegalStateException" := by decide +kernel
theorem xe_ot0 (ik : Nat) : ∀ w ∈ Cond.classLink RX5 ik "java/lang/IllegalArgumentException" :: Cond.initialized "java/lang/IllegalArgumentException" :: vx_atS RX5 40 "java/lang/IllegalArgumentException" ["java/lang/RuntimeException", "java/lang/Exception"], vx_ot w = true := by
  intro w hw
  rcases List.mem_cons.mp hw with rfl | hw
  · rfl
  · have h : ∀ w ∈ Cond.initialized "java/lang/IllegalArgumentException" :: vx_atS RX5 40 "java/lang/IllegalArgumentException" ["java/lang/RuntimeException", "java/lang/Exception"], vx_ot w = true := by decide +kernel
    exact h w hw
theorem xe_ot1 (ik : Nat) : ∀ w ∈ Cond.classLink RX5 ik "java/lang/UnsupportedOperationException" :: Cond.initialized "java/lang/UnsupportedOperationException" :: vx_atS RX5 51 "java/lang/UnsupportedOperationException" ["java/lang/RuntimeException", "java/lang/Exception"], vx_ot w = true := by
  intro w hw
  rcases List.mem_cons.mp hw with rfl | hw
  · rfl
  · have h : ∀ w ∈ Cond.initialized "java/lang/UnsupportedOperationException" :: vx_atS RX5 51 "java/lang/UnsupportedOperationException" ["java/lang/RuntimeException", "java/lang/Exception"], vx_ot w = true := by decide +kernel
    exact h w hw
theorem xe_ot2 (ik : Nat) : ∀ w ∈ Cond.classLink RX5 ik "java/lang/IndexOutOfBoundsException" :: Cond.initialized "java/lang/IndexOutOfBoundsException" :: vx_atS RX5 198 "java/lang/IndexOutOfBoundsException" ["java/lang/RuntimeException", "java/lang/Exception"], vx_ot w = true := by
  intro w hw
  rcases List.mem_cons.mp hw with rfl | hw
  · rfl
  · have h : ∀ w ∈ Cond.initialized "java/lang/IndexOutOfBoundsException" :: vx_atS RX5 198 "java/lang/IndexOutOfBoundsException" ["java/lang/RuntimeException", "java/lang/Exception"], vx_ot w = true := by decide +kernel
    exact h w hw
theorem xe_ot3 (ik : Nat) : ∀ w ∈ Cond.classLink RX5 ik "java/lang/IllegalStateException" :: Cond.initialized "java/lang/IllegalStateException" :: vx_atS RX5 133 "java/lang/IllegalStateException" ["java/lang/RuntimeException", "java/lang/Exception"], vx_ot w = true := by
  intro w hw
  rcases List.mem_cons.mp hw with rfl | hw
  · rfl
  · have h : ∀ w ∈ Cond.initialized "java/lang/IllegalStateException" :: vx_atS RX5 133 "java/lang/IllegalStateException" ["java/lang/RuntimeException", "java/lang/Exception"], vx_ot w = true := by decide +kernel
    exact h w hw
theorem xe_hat {E : String} {ic : Nat} {args : Array Value} {s : State} (hbad : (vx_atS RX5 ic E ["java/lang/RuntimeException", "java/lang/Exception"]).filter (fun w => !goodWord w) = xe_B E) {G : Nat → Nat} {A : Nat → Prop} {H : Heap} (hG : zG G A s H) (hE : E ∈ zEx)
    (h1 : ∀ w ∈ (vx_atS RX5 ic E ["java/lang/RuntimeException", "java/lang/Exception"]).filter goodWord, w.before args s = true) : ∀ w ∈ vx_atS RX5 ic E ["java/lang/RuntimeException", "java/lang/Exception"], w.before args s = true :=
  vx_hat (B := xe_B E) h1 (by rw [hbad]; exact fun w h => h) (vx_c (va_Nw.use rfl (hG.2.2.2.2.2.2.2.2.2.1 _ (by decide +kernel))) (vx_c (va_Nw.use rfl (hG.2.2.2.2.2.2.2.2.2.1 _ (by decide +kernel))) (vx_c (va_Nw.use rfl (hG.2.2.2.2.2.2.2.2.2.1 _ (by decide +kernel))) (vx_c (va_Nw.use rfl (hG.2.2.2.2.2.2.1 E hE)) vx_n))))
end THROWN
