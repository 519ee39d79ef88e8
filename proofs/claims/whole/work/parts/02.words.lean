/-! the words of the tables, those that any call keeps (TW) and those that ride on their own (NW) -/
def TW : List Cond := lw_tbl.filter goodWord
def nwOk : Cond → Bool
  | .castable _ _ => true
  | .declares _ => true
  | .methodLinkNest _ _ _ _ => true
  | _ => false
def NW : List Cond := lw_tbl.filter nwOk
theorem tw_of {w : Cond} (h : w ∈ lw_tbl) (g : goodWord w = true) : w ∈ TW := List.mem_filter.mpr ⟨h, g⟩
theorem nw_of {w : Cond} (h : w ∈ lw_tbl) (g : nwOk w = true) : w ∈ NW := List.mem_filter.mpr ⟨h, g⟩
theorem in_t0 {w : Cond} (i : Nat) (h : (k2_sels lw_privs)[i]? = some w) : w ∈ lw_tbl := List.mem_append_left _ (List.mem_of_getElem? h)
theorem in_t1 {w : Cond} (i : Nat) (h : tables_1_1[i]? = some w) : w ∈ lw_tbl := List.mem_append_right _ (List.mem_append_left _ (List.mem_of_getElem? h))
theorem in_t2 {w : Cond} (i : Nat) (h : tables_1_2[i]? = some w) : w ∈ lw_tbl := List.mem_append_right _ (List.mem_append_right _ (List.mem_append_left _ (List.mem_of_getElem? h)))
theorem in_t3 {w : Cond} (i : Nat) (h : tables_1_3[i]? = some w) : w ∈ lw_tbl := List.mem_append_right _ (List.mem_append_right _ (List.mem_append_right _ (List.mem_append_left _ (List.mem_of_getElem? h))))
theorem in_t4 {w : Cond} (i : Nat) (h : tables_1_4[i]? = some w) : w ∈ lw_tbl := List.mem_append_right _ (List.mem_append_right _ (List.mem_append_right _ (List.mem_append_right _ (List.mem_of_getElem? h))))
theorem nw_warm {w : Cond} {s U : State} (h : nwOk w = true) (hW : s.WarmedH U.vm) (hZ : va_Nw w s) : va_Nw w U := by
  cases w <;> first | exact va_Nw.warmC hW hZ | exact va_Nw.warmD hW hZ | exact va_Nw.warmM hW hZ | (simp [nwOk] at h)
theorem nw_same {w : Cond} {s U : State} (h : nwOk w = true) (hv : s.vm = U.vm) (hZ : va_Nw w s) : va_Nw w U := va_Nw.same (by cases w <;> first | rfl | (simp [nwOk] at h)) hv hZ
theorem nw_get {w : Cond} {args : Array Value} {s : State} (h : nwOk w = true) (hZ : w.before args s = true) : va_Nw w s := va_Nw.of (by cases w <;> first | rfl | (simp [nwOk] at h)) hZ
theorem TW_good {c : Cond} (h : c ∈ TW) : GoodIn TW (c :: TW) := fun w hw => by
  rcases List.mem_cons.mp hw with rfl | hw
  · exact ⟨h, good_of_word (List.mem_filter.mp h).2⟩
  · exact ⟨hw, good_of_word (List.mem_filter.mp hw).2⟩
theorem TW_all {a : List Cond} {c : Cond} (ha : ∀ w ∈ a, w ∈ TW) (h : c ∈ TW) : GoodIn TW (a ++ (c :: TW)) := fun w hw => by
  rcases List.mem_append.mp hw with hw | hw
  · exact ⟨ha w hw, good_of_word (List.mem_filter.mp (ha w hw)).2⟩
  · exact TW_good h w hw
theorem TW_V {own C : String} {idx : Nat} {y : MethodName} {c : Cond} (h1 : Cond.methodLink own idx y ∈ TW) (h2 : Cond.instanceMethod y ∈ TW) (h3 : Cond.selects C y y ∈ TW) (h4 : Cond.initialized C ∈ TW) (h : c ∈ TW) : GoodIn TW (wsV own idx C y (c :: TW)) :=
  TW_all (fun w hw => by simp only [List.mem_cons, List.not_mem_nil, or_false] at hw; rcases hw with rfl | rfl | rfl | rfl <;> assumption) h
theorem TW_S {own : String} {idx : Nat} {y : MethodName} {c : Cond} (h1 : Cond.methodLink own idx y ∈ TW) (h2 : Cond.static y ∈ TW) (h4 : Cond.initialized y.cls ∈ TW) (h : c ∈ TW) : GoodIn TW (va_wsS own idx y (c :: TW)) :=
  TW_all (fun w hw => by simp only [List.mem_cons, List.not_mem_nil, or_false] at hw; rcases hw with rfl | rfl | rfl <;> assumption) h
