/-! A world held whole: ws is the list of ALL cells of one system; it is never split, and a place in it stays its place. A: the addresses that may change. G: what the start fixes (classes, slots, the array classes of int, long, Object, the empty row of ArrayList, a mirror). -/
abbrev xG : Type := va_G × ClassId × ClassId × ClassId × Nat × Nat
abbrev xD (G : xG) : va_G := G.1
abbrev xI (G : xG) : ClassId := G.2.1
abbrev xJ (G : xG) : ClassId := G.2.2.1
abbrev xO (G : xG) : ClassId := G.2.2.2.1
abbrev xZ (G : xG) : Nat := G.2.2.2.2.1
abbrev xM (G : xG) : Nat := G.2.2.2.2.2
abbrev xT (G : xG) : List (ClassId × FieldType) := [(xI G, .int), (xJ G, .long), (xO G, .object "java/lang/Object")]
abbrev aI (G : xG) (n : Nat) (f : Nat → Int32) : va_E := .inl (xI G, n, .inl f)
abbrev aJ (G : xG) (n : Nat) (f : Nat → Int64) : va_E := .inl (xJ G, n, .inr (.inl f))
abbrev aO (G : xG) (n : Nat) (f : Nat → Option Nat) : va_E := .inl (xO G, n, .inr (.inr (.inr (.inr f))))
abbrev x_B (G : xG) (A : Nat → Prop) (ws : va_W) (t : State) : Prop := va_P (xD G) CL ws t.heap ∧ va_D A ws
def x_E (G : xG) (A : Nat → Prop) (U : State) (H : Heap) : Prop :=
  va_K (xD G) CL (xT G) U ∧ va_Z "java/util/ArrayList" "DEFAULTCAPACITY_EMPTY_ELEMENTDATA" "[Ljava/lang/Object;" (.ref (xZ G)) A U H ∧ va_T (.object "java/lang/Object") (xZ G) 0 (fun _ => .null) A U H ∧ va_Mi "[Ljava/lang/Object;" (xM G) U ∧ va_AO "java/lang/Object" U ∧
  vx_Zq Bundle.tN "UNASSIGNED_STACK" Bundle.steD A U H ∧ vx_Zq Bundle.tN "SUPPRESSED_SENTINEL" Bundle.listD A U H ∧ ∀ w ∈ NW, va_Nw w U
theorem x_E.warm {G : xG} {A : Nat → Prop} {u U : State} {H : Heap} (hW : u.WarmedH U.vm) (h : x_E G A u H) : x_E G A U H := by
  obtain ⟨h1, h2, h3, h4, h5, h6, h7, h8⟩ := h
  have hvm := hW.alike
  exact ⟨h1.moved hvm, h2.moved hvm, h3.moved hvm, h4.moved hvm, h5.moved hvm, h6.moved hvm, h7.moved hvm, fun w hw => nw_warm (List.mem_filter.mp hw).2 hW (h8 w hw)⟩
theorem x_E.same {G : xG} {A : Nat → Prop} {u U : State} {H : Heap} (hv : u.vm = U.vm) (h : x_E G A u H) : x_E G A U H := by
  obtain ⟨h1, h2, h3, h4, h5, h6, h7, h8⟩ := h
  have hvm : u.vm.Alike U.vm := by rw [hv]; exact Vm.Alike.refl U.vm
  exact ⟨h1.moved hvm, h2.moved hvm, h3.moved hvm, h4.moved hvm, h5.moved hvm, h6.moved hvm, h7.moved hvm, fun w hw => nw_same (List.mem_filter.mp hw).2 hv (h8 w hw)⟩
theorem x_E.kept {G : xG} {A : Nat → Prop} {U : State} {H H1 : Heap} (h : x_E G A U H) (hq : ∀ a : Nat, a < H.size → ¬ A a → H1[a]? = H[a]?) : x_E G A U H1 := by
  obtain ⟨h1, h2, h3, h4, h5, h6, h7, h8⟩ := h
  exact ⟨h1, h2.kept hq, h3.kept hq, h4, h5, h6.kept hq, h7.kept hq, h8⟩
def x_P (G : xG) (A : Nat → Prop) (ws : va_W) (U : State) : Prop := x_E G A U U.heap ∧ (∀ q, U.heap.size ≤ q → A q) ∧ va_P (xD G) CL ws U.heap ∧ va_D A ws
theorem x_blind {G : xG} {A : Nat → Prop} {ws : va_W} {av : List Value} : FrameBlind (va_Pc av (x_P G A ws)) := by
  intro a U g mk h
  obtain ⟨h1, h2, h3, h4, h5⟩ := h
  exact ⟨h1, x_E.same (u := U) (U := U.calling g mk a) rfl h2, h3, h4, h5⟩
theorem x_pre {G : xG} {A : Nat → Prop} {ws : va_W} {av : List Value} {s : State} {H : Heap} {locs : List Loc} (hE : x_E G A s s.heap) (hA : ∀ q, s.heap.size ≤ q → A q) (hS : va_S A s.heap H locs) (hP : va_P (xD G) CL ws H) (hD : va_D A ws) :
    ∀ U : State, U.heap = H → s.WarmedH U.vm → va_Pc av (x_P G A ws) av.toArray U := by
  intro U hU hW
  refine ⟨rfl, ?_, fun q h => hA q (Nat.le_trans hS.1 (by rw [← hU]; exact h)), by rw [hU]; exact hP, hD⟩
  rw [hU]
  exact (hE.warm hW).kept (fun a h1 h2 => hS.2.1 a h1 h2)
/-! places -/
theorem w_eq {ws : va_W} {k : Nat} {x y : Nat × va_E} (h : ws[k]? = some x) : (ws.set k y)[k]? = some y := List.getElem?_set_self (List.getElem?_eq_some_iff.mp h).1
theorem w_ne {ws : va_W} {k j : Nat} {y z : Nat × va_E} (hne : k ≠ j) (h : ws[j]? = some z) : (ws.set k y)[j]? = some z := by rw [List.getElem?_set_ne hne]; exact h
theorem w_app {ws n : va_W} {k : Nat} {x : Nat × va_E} (h : ws[k]? = some x) : (ws ++ n)[k]? = some x := by rw [List.getElem?_append_left (List.getElem?_eq_some_iff.mp h).1]; exact h
theorem w_new0 {ws : va_W} {x : Nat × va_E} {n : va_W} : (ws ++ (x :: n))[ws.length]? = some x := by simp
theorem w_new1 {ws : va_W} {x y : Nat × va_E} {n : va_W} : (ws ++ (x :: y :: n))[ws.length + 1]? = some y := by simp
theorem w_dif {ws : va_W} {k j : Nat} {a b : Nat × va_E} (h1 : ws[k]? = some a) (h2 : ws[j]? = some b) (h : a.2 ≠ b.2) : k ≠ j := by
  rintro rfl
  rw [h1] at h2
  exact h (by cases h2; rfl)
theorem w_lt {ws : va_W} {k : Nat} {x : Nat × va_E} (h : ws[k]? = some x) : k < ws.length := (List.getElem?_eq_some_iff.mp h).1
theorem w_fn {ws : va_W} {k : Nat} {x y : Nat × va_E} (h1 : ws[k]? = some x) (h2 : ws[k]? = some y) : x = y := Option.some.inj (h1.symm.trans h2)
theorem w_setlen {ws : va_W} {k : Nat} {x : Nat × va_E} : (ws.set k x).length = ws.length := List.length_set
/-! numbers -/
theorem n_inc (i : Nat) : nI i + Int32.ofInt 1 = nI (i + 1) := by rw [lit1]; exact nI_1 i
theorem n_0 : (0 : Int32) = nI 0 := nI_0.symm
theorem n_lit {i : Nat} {x : Int32} (h : x.toInt = (i : Int)) (hi : i < 2 ^ 31) : x = nI i := Int32.toInt_inj.mp (by rw [h, nI_toInt hi])
section XR
variable {p : Program} {l : Launch} {e : Env} {R : Room} {s : State} {m : MethodId} {args : Array Value} {below : List Frame} {meth : Method} {c : Code} {H : Heap} {locs : List Loc} {cells slots : Nat} {Q : State → Prop}
variable {cc : ByteArray} {pc : Nat} {ls : Array Slot} {rest : List Value} {G : xG} {A : Nat → Prop} {a : Nat} {ws : va_W} {H0 : Heap}
theorem x_top {x : Int32} (y : Int32) (h : x = y) (k : W p l e R s m args below meth c H locs cells slots Q (F0 m pc ls (.int y :: rest))) : W p l e R s m args below meth c H locs cells slots Q (F0 m pc ls (.int x :: rest)) := h ▸ k
theorem x_newa (hexec : p.tables.exec = Jvm.exec) (hb : c.code = cc) (harr : (Cond.arrayClass .int).before args s = true) (hK : va_K (xD G) CL (xT G) s) (hP : va_P (xD G) CL ws H) (hD : va_D A ws) (hS : va_S A H0 H locs) (hA : ∀ q, H0.size ≤ q → A q)
    {n : Int32} (N : Nat) (hn : n = nI N) (hN : N < 100000) (hcells : cells + 1 ≤ R.cells) (hslots : slots + N ≤ R.slots) (hdg : decode cc pc = .ok (.newarray .int, 2))
    (kk : ∀ (q : Nat) (H1 : Heap), va_P (xD G) CL (ws ++ [(q, aI G N (fun _ => 0))]) H1 → va_D A (ws ++ [(q, aI G N (fun _ => 0))]) → va_S A H0 H1 locs →
      W p l e R s m args below meth c H1 locs (cells + 1) (slots + N) Q (F0 m (pc + 2) ls (.ref q :: rest))) : W p l e R s m args below meth c H locs cells slots Q (F0 m pc ls (.int n :: rest)) := by
  subst hn
  refine va_newa hexec hb (atype := .int) harr (ty := .int) rfl hK hP hD hS hA (N' := N) (a0 := (N, .inl (fun _ => 0))) (fun _ => rfl) (nI_pos (by omega)) (nI_clamp (by omega)) (by simp [componentBytes]; omega) hcells hslots hdg (fun q cA H1 hK2 hP2 hD2 hS2 => ?_)
  have e1 : s.vm.findClass ("[" ++ FieldType.int.toString) = some cA := (hK2.2 3 (cA, .int) rfl).2
  have e2 : s.vm.findClass ("[" ++ FieldType.int.toString) = some (xI G) := (hK.2 0 (xI G, .int) rfl).2
  have e3 : cA = xI G := Option.some.inj (e1.symm.trans e2)
  subst e3
  exact kk q H1 hP2 hD2 hS2
theorem x_newq (hexec : p.tables.exec = Jvm.exec) (hb : c.code = cc) {own : String} {index : Nat} (hown : s.vm.findClass own = some m.cls) (hclink : (Cond.classLink own index "java/lang/Object").before args s = true) (hover : va_AO "java/lang/Object" s) (hK : va_K (xD G) CL (xT G) s) (hP : va_P (xD G) CL ws H) (hD : va_D A ws) (hS : va_S A H0 H locs) (hA : ∀ q, H0.size ≤ q → A q)
    {n : Int32} (N : Nat) (hn : n = nI N) (hN : N < 100000) (hcells : cells + 1 ≤ R.cells) (hslots : slots + N ≤ R.slots) (hdg : decode cc pc = .ok (.anewarray index, 3))
    (kk : ∀ (q : Nat) (H1 : Heap), va_P (xD G) CL (ws ++ [(q, aO G N (fun _ => none))]) H1 → va_D A (ws ++ [(q, aO G N (fun _ => none))]) → va_S A H0 H1 locs →
      W p l e R s m args below meth c H1 locs (cells + 1) (slots + N) Q (F0 m (pc + 3) ls (.ref q :: rest))) : W p l e R s m args below meth c H locs cells slots Q (F0 m pc ls (.int n :: rest)) := by
  subst hn
  refine va_newq hexec hb hown hclink hover hK hP hD hS hA (N' := N) (nI_pos (by omega)) (nI_clamp (by omega)) (by omega) hcells hslots hdg (fun q cA H1 hK2 hP2 hD2 hS2 => ?_)
  have e1 : s.vm.findClass ("[" ++ (FieldType.object "java/lang/Object").toString) = some cA := (hK2.2 3 (cA, .object "java/lang/Object") rfl).2.choose_spec.choose_spec.2.2.2
  have e2 : s.vm.findClass ("[" ++ (FieldType.object "java/lang/Object").toString) = some (xO G) := (hK.2 2 (xO G, .object "java/lang/Object") rfl).2.choose_spec.choose_spec.2.2.2
  have e3 : cA = xO G := Option.some.inj (e1.symm.trans e2)
  subst e3
  exact kk q H1 hP2 hD2 hS2
theorem x_iald (hexec : p.tables.exec = Jvm.exec) (hb : c.code = cc) (hK : va_K (xD G) CL (xT G) s) (hP : va_P (xD G) CL ws H) {q0 n : Nat} {f : Nat → Int32} (ha : ws[q0]? = some (a, aI G n f)) {i : Int32} (j : Nat) (hi : i = nI j) (hj : j < n) (hn : n < 100000) (hdg : decode cc pc = .ok (.iaload, 1))
    (kk : W p l e R s m args below meth c H locs cells slots Q (F0 m (pc + 1) ls (.int (f j) :: rest))) : W p l e R s m args below meth c H locs cells slots Q (F0 m pc ls (.int i :: .ref a :: rest)) := by
  subst hi
  refine va_iald hexec hb hK hP q0 0 ha rfl (vp_in_nI hj (by omega)) hdg ?_
  rw [nI_clamp (by omega)]
  exact kk
theorem x_iast (hexec : p.tables.exec = Jvm.exec) (hb : c.code = cc) (hK : va_K (xD G) CL (xT G) s) (hP : va_P (xD G) CL ws H) (hD : va_D A ws) (hS : va_S A H0 H locs) {q0 n : Nat} {f : Nat → Int32} (ha : ws[q0]? = some (a, aI G n f)) {i x : Int32} (j : Nat) (hi : i = nI j) (hj : j < n) (hn : n < 100000) (hdg : decode cc pc = .ok (.iastore, 1))
    (kk : ∀ (H1 : Heap) (locs1 : List Loc), va_P (xD G) CL (ws.set q0 (a, aI G n (upd f j x))) H1 → va_D A (ws.set q0 (a, aI G n (upd f j x))) → va_S A H0 H1 locs1 → W p l e R s m args below meth c H1 locs1 cells slots Q (F0 m (pc + 1) ls rest)) : W p l e R s m args below meth c H locs cells slots Q (F0 m pc ls (.int x :: .int i :: .ref a :: rest)) := by
  subst hi
  refine va_iast hexec hb hK hP hD hS q0 0 ha rfl (vp_in_nI hj (by omega)) hdg ?_
  rw [nI_clamp (by omega)]
  exact kk
theorem x_lt (hexec : p.tables.exec = Jvm.exec) (hb : c.code = cc) {x y : Int32} (i j : Nat) (hx : x = nI i) (hy : y = nI j) (hi : i < 2 ^ 31) (hj : j < 2 ^ 31) {off : Int} {tgt : Nat} (hdg : decode cc pc = .ok (.if_icmp .lt off, 3)) (ht : (pc : Int) + off = (tgt : Int))
    (kt : i < j → W p l e R s m args below meth c H locs cells slots Q (F0 m tgt ls rest)) (kf : j ≤ i → W p l e R s m args below meth c H locs cells slots Q (F0 m (pc + 3) ls rest)) : W p l e R s m args below meth c H locs cells slots Q (F0 m pc ls (.int y :: .int x :: rest)) := by
  subst hx; subst hy
  exact lv_icmp_lt hexec hb hdg ht (fun h => kt ((nI_ltI hi hj).mp h)) (fun h => kf (Nat.not_lt.mp fun q => h ((nI_ltI hi hj).mpr q)))
theorem x_ge (hexec : p.tables.exec = Jvm.exec) (hb : c.code = cc) {x y : Int32} (i j : Nat) (hx : x = nI i) (hy : y = nI j) (hi : i < 2 ^ 31) (hj : j < 2 ^ 31) {off : Int} {tgt : Nat} (hdg : decode cc pc = .ok (.if_icmp .ge off, 3)) (ht : (pc : Int) + off = (tgt : Int))
    (kt : j ≤ i → W p l e R s m args below meth c H locs cells slots Q (F0 m tgt ls rest)) (kf : i < j → W p l e R s m args below meth c H locs cells slots Q (F0 m (pc + 3) ls rest)) : W p l e R s m args below meth c H locs cells slots Q (F0 m pc ls (.int y :: .int x :: rest)) := by
  subst hx; subst hy
  exact lv_icmp_ge hexec hb hdg ht (fun h => kt ((nI_leI hj hi).mp h)) (fun h => kf (Nat.not_le.mp fun q => h ((nI_leI hj hi).mpr q)))
theorem x_gt (hexec : p.tables.exec = Jvm.exec) (hb : c.code = cc) {x y : Int32} (i j : Nat) (hx : x = nI i) (hy : y = nI j) (hi : i < 2 ^ 31) (hj : j < 2 ^ 31) {off : Int} {tgt : Nat} (hdg : decode cc pc = .ok (.if_icmp .gt off, 3)) (ht : (pc : Int) + off = (tgt : Int))
    (kt : j < i → W p l e R s m args below meth c H locs cells slots Q (F0 m tgt ls rest)) (kf : i ≤ j → W p l e R s m args below meth c H locs cells slots Q (F0 m (pc + 3) ls rest)) : W p l e R s m args below meth c H locs cells slots Q (F0 m pc ls (.int y :: .int x :: rest)) := by
  subst hx; subst hy
  exact lv_icmp_gt hexec hb hdg ht (fun h => kt ((nI_ltI hj hi).mp h)) (fun h => kf (Nat.not_lt.mp fun q => h ((nI_ltI hj hi).mpr q)))
theorem x_le (hexec : p.tables.exec = Jvm.exec) (hb : c.code = cc) {x y : Int32} (i j : Nat) (hx : x = nI i) (hy : y = nI j) (hi : i < 2 ^ 31) (hj : j < 2 ^ 31) {off : Int} {tgt : Nat} (hdg : decode cc pc = .ok (.if_icmp .le off, 3)) (ht : (pc : Int) + off = (tgt : Int))
    (kt : i ≤ j → W p l e R s m args below meth c H locs cells slots Q (F0 m tgt ls rest)) (kf : j < i → W p l e R s m args below meth c H locs cells slots Q (F0 m (pc + 3) ls rest)) : W p l e R s m args below meth c H locs cells slots Q (F0 m pc ls (.int y :: .int x :: rest)) := by
  subst hx; subst hy
  exact lv_icmp_le hexec hb hdg ht (fun h => kt ((nI_leI hi hj).mp h)) (fun h => kf (Nat.not_le.mp fun q => h ((nI_leI hi hj).mpr q)))
theorem x_eq (hexec : p.tables.exec = Jvm.exec) (hb : c.code = cc) {x y : Int32} (i j : Nat) (hx : x = nI i) (hy : y = nI j) (hi : i < 2 ^ 31) (hj : j < 2 ^ 31) {off : Int} {tgt : Nat} (hdg : decode cc pc = .ok (.if_icmp .eq off, 3)) (ht : (pc : Int) + off = (tgt : Int))
    (kt : i = j → W p l e R s m args below meth c H locs cells slots Q (F0 m tgt ls rest)) (kf : i ≠ j → W p l e R s m args below meth c H locs cells slots Q (F0 m (pc + 3) ls rest)) : W p l e R s m args below meth c H locs cells slots Q (F0 m pc ls (.int y :: .int x :: rest)) := by
  subst hx; subst hy
  exact lv_icmp_eq hexec hb hdg ht (fun h => kt ((nI_eq hi hj).mp h)) (fun h => kf fun q => h ((nI_eq hi hj).mpr q))
theorem x_ne (hexec : p.tables.exec = Jvm.exec) (hb : c.code = cc) {x y : Int32} (i j : Nat) (hx : x = nI i) (hy : y = nI j) (hi : i < 2 ^ 31) (hj : j < 2 ^ 31) {off : Int} {tgt : Nat} (hdg : decode cc pc = .ok (.if_icmp .ne off, 3)) (ht : (pc : Int) + off = (tgt : Int))
    (kt : i ≠ j → W p l e R s m args below meth c H locs cells slots Q (F0 m tgt ls rest)) (kf : i = j → W p l e R s m args below meth c H locs cells slots Q (F0 m (pc + 3) ls rest)) : W p l e R s m args below meth c H locs cells slots Q (F0 m pc ls (.int y :: .int x :: rest)) := by
  subst hx; subst hy
  exact lv_icmp_ne hexec hb hdg ht (fun h => kt fun q => h ((nI_eq hi hj).mpr q)) (fun h => kf ((nI_eq hi hj).mp h))
theorem x_if_eq (hexec : p.tables.exec = Jvm.exec) (hb : c.code = cc) {x : Int32} (i : Nat) (hx : x = nI i) (hi : i < 2 ^ 31) {off : Int} {tgt : Nat} (hdg : decode cc pc = .ok (.ifCond .eq off, 3)) (ht : (pc : Int) + off = (tgt : Int))
    (kt : i = 0 → W p l e R s m args below meth c H locs cells slots Q (F0 m tgt ls rest)) (kf : i ≠ 0 → W p l e R s m args below meth c H locs cells slots Q (F0 m (pc + 3) ls rest)) : W p l e R s m args below meth c H locs cells slots Q (F0 m pc ls (.int x :: rest)) := by
  subst hx
  exact lv_if_eq hexec hb hdg ht (fun h => kt ((nI_eq hi (by omega)).mp (h.trans n_0))) (fun h => kf fun q => h (by rw [q]; exact nI_0))
theorem x_if_ne (hexec : p.tables.exec = Jvm.exec) (hb : c.code = cc) {x : Int32} (i : Nat) (hx : x = nI i) (hi : i < 2 ^ 31) {off : Int} {tgt : Nat} (hdg : decode cc pc = .ok (.ifCond .ne off, 3)) (ht : (pc : Int) + off = (tgt : Int))
    (kt : i ≠ 0 → W p l e R s m args below meth c H locs cells slots Q (F0 m tgt ls rest)) (kf : i = 0 → W p l e R s m args below meth c H locs cells slots Q (F0 m (pc + 3) ls rest)) : W p l e R s m args below meth c H locs cells slots Q (F0 m pc ls (.int x :: rest)) := by
  subst hx
  exact lv_if_ne hexec hb hdg ht (fun h => kt fun q => h (by rw [q]; exact nI_0)) (fun h => kf ((nI_eq hi (by omega)).mp (h.trans n_0)))
theorem x_if_le (hexec : p.tables.exec = Jvm.exec) (hb : c.code = cc) {x : Int32} (i : Nat) (hx : x = nI i) (hi : i < 2 ^ 31) {off : Int} {tgt : Nat} (hdg : decode cc pc = .ok (.ifCond .le off, 3)) (ht : (pc : Int) + off = (tgt : Int))
    (kt : i = 0 → W p l e R s m args below meth c H locs cells slots Q (F0 m tgt ls rest)) (kf : 0 < i → W p l e R s m args below meth c H locs cells slots Q (F0 m (pc + 3) ls rest)) : W p l e R s m args below meth c H locs cells slots Q (F0 m pc ls (.int x :: rest)) := by
  subst hx
  refine lv_if_le hexec hb hdg ht (fun h => kt ?_) (fun h => kf ?_)
  · rw [n_0] at h
    have h2 := (nI_leI hi (by omega)).mp h
    omega
  · rcases Nat.eq_zero_or_pos i with q | q
    · exact absurd (by rw [q, nI_0]; exact Int32.le_refl 0) h
    · exact q
theorem x_if_gt (hexec : p.tables.exec = Jvm.exec) (hb : c.code = cc) {x : Int32} (i : Nat) (hx : x = nI i) (hi : i < 2 ^ 31) {off : Int} {tgt : Nat} (hdg : decode cc pc = .ok (.ifCond .gt off, 3)) (ht : (pc : Int) + off = (tgt : Int))
    (kt : 0 < i → W p l e R s m args below meth c H locs cells slots Q (F0 m tgt ls rest)) (kf : i = 0 → W p l e R s m args below meth c H locs cells slots Q (F0 m (pc + 3) ls rest)) : W p l e R s m args below meth c H locs cells slots Q (F0 m pc ls (.int x :: rest)) := by
  subst hx
  refine lv_if_gt hexec hb hdg ht (fun h => kt ?_) (fun h => kf ?_)
  · rw [n_0] at h; exact (nI_ltI (by omega) hi).mp h
  · rcases Nat.eq_zero_or_pos i with q | q
    · exact q
    · exact absurd (by rw [n_0]; exact (nI_ltI (by omega) hi).mpr q) h
end XR
