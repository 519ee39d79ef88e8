/-! throws -/
abbrev qX (G : xG) (A : Nat → Prop) (post : String → va_W → Prop) : String → State → State → Prop := vx_X (fun (_ : va_W) => True) (fun E w t => post E w ∧ x_B G A w t) A
theorem x_hat {args : Array Value} {s : State} {L : List Cond} (ht : ∀ w ∈ TW, w.before args s = true) (hN : ∀ w ∈ NW, va_Nw w s) (h1 : ∀ w ∈ L, w ∈ lw_tbl ∧ (goodWord w = true ∨ nwOk w = true)) : ∀ w ∈ L, w.before args s = true := by
  intro w hw
  obtain ⟨h2, h3⟩ := h1 w hw
  rcases h3 with h3 | h3
  · exact ht w (tw_of h2 h3)
  · exact va_Nw.use (by cases w <;> first | rfl | (simp [nwOk] at h3)) (hN w (nw_of h2 h3))
theorem x_thrown {G : xG} {A : Nat → Prop} {ws : va_W} {s : State} {H : Heap} {locs : List Loc} {post : String → va_W → Prop} {cls : String} (hS : va_S A s.heap H locs) (hP : va_P (xD G) CL ws H) (hD : va_D A ws) (hp : post cls ws) : ∀ t : State, s.vm.Alike t.vm → H.size ≤ t.heap.size → (∀ q : Nat, q < H.size → t.heap[q]? = H[q]?) → qX G A post cls s t := by
  intro t _ hz hq
  refine ⟨ws, trivial, ⟨hp, hP.kept (fun k x hk => hq x.1 ((hP k x hk).lt)), hD⟩, Nat.le_trans hS.1 hz, fun q h1 h2 => ?_⟩
  rw [hq q (Nat.lt_of_lt_of_le h1 hS.1)]
  exact hS.2.1 q h1 h2
set_option maxRecDepth 100000 in
theorem at_IAE : ∀ w ∈ vx_at0 R_C 58 "java/lang/IllegalArgumentException" ["java/lang/RuntimeException", "java/lang/Exception"], w ∈ lw_tbl ∧ (goodWord w = true ∨ nwOk w = true) := by decide +kernel
set_option maxRecDepth 100000 in
theorem hg_IAE : ∀ w ∈ Cond.classLink R_C 56 "java/lang/IllegalArgumentException" :: Cond.initialized "java/lang/IllegalArgumentException" :: vx_at0 R_C 58 "java/lang/IllegalArgumentException" ["java/lang/RuntimeException", "java/lang/Exception"], vx_ot w = true := by decide +kernel
set_option maxRecDepth 100000 in
theorem at_ISE : ∀ w ∈ vx_at0 R_C 64 "java/lang/IllegalStateException" ["java/lang/RuntimeException", "java/lang/Exception"], w ∈ lw_tbl ∧ (goodWord w = true ∨ nwOk w = true) := by decide +kernel
set_option maxRecDepth 100000 in
theorem hg_ISE : ∀ w ∈ Cond.classLink R_C 62 "java/lang/IllegalStateException" :: Cond.initialized "java/lang/IllegalStateException" :: vx_at0 R_C 64 "java/lang/IllegalStateException" ["java/lang/RuntimeException", "java/lang/Exception"], vx_ot w = true := by decide +kernel
set_option maxRecDepth 100000 in
theorem at_NSE : ∀ w ∈ vx_at0 R_C 103 "java/util/NoSuchElementException" ["java/lang/RuntimeException", "java/lang/Exception"], w ∈ lw_tbl ∧ (goodWord w = true ∨ nwOk w = true) := by decide +kernel
set_option maxRecDepth 100000 in
theorem hg_NSE : ∀ w ∈ Cond.classLink R_C 101 "java/util/NoSuchElementException" :: Cond.initialized "java/util/NoSuchElementException" :: vx_at0 R_C 103 "java/util/NoSuchElementException" ["java/lang/RuntimeException", "java/lang/Exception"], vx_ot w = true := by decide +kernel
set_option maxRecDepth 100000 in
theorem at_UOE : ∀ w ∈ vx_at0 R_C 114 "java/lang/UnsupportedOperationException" ["java/lang/RuntimeException", "java/lang/Exception"], w ∈ lw_tbl ∧ (goodWord w = true ∨ nwOk w = true) := by decide +kernel
set_option maxRecDepth 100000 in
theorem hg_UOE : ∀ w ∈ Cond.classLink R_C 112 "java/lang/UnsupportedOperationException" :: Cond.initialized "java/lang/UnsupportedOperationException" :: vx_at0 R_C 114 "java/lang/UnsupportedOperationException" ["java/lang/RuntimeException", "java/lang/Exception"], vx_ot w = true := by decide +kernel
set_option maxRecDepth 100000 in
theorem at_AE : ∀ w ∈ vx_at0 R_C 131 "java/lang/ArithmeticException" ["java/lang/RuntimeException", "java/lang/Exception"], w ∈ lw_tbl ∧ (goodWord w = true ∨ nwOk w = true) := by decide +kernel
set_option maxRecDepth 100000 in
theorem hg_AE : ∀ w ∈ Cond.classLink R_C 129 "java/lang/ArithmeticException" :: Cond.initialized "java/lang/ArithmeticException" :: vx_at0 R_C 131 "java/lang/ArithmeticException" ["java/lang/RuntimeException", "java/lang/Exception"], vx_ot w = true := by decide +kernel
