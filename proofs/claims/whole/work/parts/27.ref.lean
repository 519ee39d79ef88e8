/-! the reference -/
abbrev MS : Type := Nat × Nat × Nat × Nat × Nat × Nat × Nat × (Nat → Nat) × (Nat → Nat) × (Nat → Nat) × (Nat → Nat) × (Nat → Nat) × (Nat → Nat) × (Nat → Nat) × (Nat → Nat) × (Nat → Nat) × (Nat → Nat) × (Nat → Nat) × (Nat → Nat)
abbrev MS.th (s : MS) : Nat := s.1
abbrev MS.ex (s : MS) : Nat := s.2.1
abbrev MS.va (s : MS) : Nat := s.2.2.1
abbrev MS.co (s : MS) : Nat := s.2.2.2.1
abbrev MS.sv (s : MS) : Nat := s.2.2.2.2.1
abbrev MS.kn (s : MS) : Nat := s.2.2.2.2.2.1
abbrev MS.kc (s : MS) : Nat := s.2.2.2.2.2.2.1
abbrev MS.S (s : MS) : Nat → Nat := s.2.2.2.2.2.2.2.1
abbrev MS.Kd (s : MS) : Nat → Nat := s.2.2.2.2.2.2.2.2.1
abbrev MS.In (s : MS) : Nat → Nat := s.2.2.2.2.2.2.2.2.2.1
abbrev MS.Hw (s : MS) : Nat → Nat := s.2.2.2.2.2.2.2.2.2.2.1
abbrev MS.Fr (s : MS) : Nat → Nat := s.2.2.2.2.2.2.2.2.2.2.2.1
abbrev MS.Gn (s : MS) : Nat → Nat := s.2.2.2.2.2.2.2.2.2.2.2.2.1
abbrev MS.R (s : MS) : Nat → Nat := s.2.2.2.2.2.2.2.2.2.2.2.2.2.1
abbrev MS.L (s : MS) : Nat → Nat := s.2.2.2.2.2.2.2.2.2.2.2.2.2.2.1
abbrev MS.T (s : MS) : Nat → Nat := s.2.2.2.2.2.2.2.2.2.2.2.2.2.2.2.1
abbrev MS.O (s : MS) : Nat → Nat := s.2.2.2.2.2.2.2.2.2.2.2.2.2.2.2.2.1
abbrev MS.B (s : MS) : Nat → Nat := s.2.2.2.2.2.2.2.2.2.2.2.2.2.2.2.2.2.1
abbrev MS.W (s : MS) : Nat → Nat := s.2.2.2.2.2.2.2.2.2.2.2.2.2.2.2.2.2.2
abbrev MA : Type := Nat × Nat × Nat × Nat × Nat × Nat × Nat × Nat × Nat × Nat × Nat × Nat × Nat
abbrev MA.m (s : MA) : Nat := s.1
abbrev MA.aS (s : MA) : Nat := s.2.1
abbrev MA.aK (s : MA) : Nat := s.2.2.1
abbrev MA.aI (s : MA) : Nat := s.2.2.2.1
abbrev MA.aH (s : MA) : Nat := s.2.2.2.2.1
abbrev MA.aF (s : MA) : Nat := s.2.2.2.2.2.1
abbrev MA.aG (s : MA) : Nat := s.2.2.2.2.2.2.1
abbrev MA.aR (s : MA) : Nat := s.2.2.2.2.2.2.2.1
abbrev MA.aL (s : MA) : Nat := s.2.2.2.2.2.2.2.2.1
abbrev MA.aT (s : MA) : Nat := s.2.2.2.2.2.2.2.2.2.1
abbrev MA.aO (s : MA) : Nat := s.2.2.2.2.2.2.2.2.2.2.1
abbrev MA.aB (s : MA) : Nat := s.2.2.2.2.2.2.2.2.2.2.2.1
abbrev MA.aW (s : MA) : Nat := s.2.2.2.2.2.2.2.2.2.2.2.2
def rI (f : Nat → Nat) : Nat → Int32 := fun j => nI (f j)
def mW (G : xG) (a : MA) (st : MS) : va_W := [(a.m, .inr (5, [.int (nI st.th), .ref a.aS, .ref a.aK, .ref a.aI, .int (nI st.ex), .ref a.aH, .ref a.aF, .ref a.aG, .int (nI st.va), .ref a.aR, .int (nI st.co), .ref a.aL, .ref a.aT, .ref a.aO, .ref a.aB, .ref a.aW, .int (nI st.sv), .int (nI st.kn), .int (nI st.kc)])), (a.aS, aI G 3600 (rI st.S)), (a.aK, aI G 60 (rI st.Kd)), (a.aI, aI G 60 (rI st.In)), (a.aH, aI G 60 (rI st.Hw)), (a.aF, aI G 60 (rI st.Fr)), (a.aG, aI G 60 (rI st.Gn)), (a.aR, aI G 14400 (rI st.R)), (a.aL, aI G 60 (rI st.L)), (a.aT, aI G 60 (rI st.T)), (a.aO, aI G 60 (rI st.O)), (a.aB, aI G 60 (rI st.B)), (a.aW, aI G 60 (rI st.W))]
theorem up_rI {f : Nat → Nat} {j v : Nat} : upd (rI f) j (nI v) = rI (va_up f j v) := by
  funext i
  unfold upd rI va_up
  split <;> rfl
def ovb (n b : Nat) (f g : Nat → Nat) : Nat → Nat := fun j => if b ≤ j ∧ j < b + n then g (j - b) else f j
theorem ovb_0 {b : Nat} {f g : Nat → Nat} : ovb 0 b f g = f := by funext j; unfold ovb; rw [if_neg (by omega)]
theorem ovb_s {n b : Nat} {f g : Nat → Nat} : va_up (ovb n b f g) (b + n) (g n) = ovb (n + 1) b f g := by
  funext j
  unfold va_up ovb
  by_cases h : j = b + n
  · subst h
    rw [if_pos rfl, if_pos (by omega), Nat.add_sub_cancel_left]
  · rw [if_neg h]
    by_cases h2 : b ≤ j ∧ j < b + n
    · rw [if_pos h2, if_pos (by omega)]
    · rw [if_neg h2, if_neg (by omega)]
theorem ovb_in {n b j : Nat} {f g : Nat → Nat} (h : j < n) : ovb n b f g (b + j) = g j := by unfold ovb; rw [if_pos (by omega), Nat.add_sub_cancel_left]
theorem ovb_at {n j : Nat} {f g : Nat → Nat} (h : j < n) : ovb n 0 f g j = g j := by unfold ovb; rw [if_pos (by omega)]; rfl
theorem ovb_out {n b j : Nat} {f g : Nat → Nat} (h : ¬ (b ≤ j ∧ j < b + n)) : ovb n b f g j = f j := by unfold ovb; rw [if_neg h]
theorem w_self {ws : va_W} {k : Nat} {x : Nat × va_E} (h : ws[k]? = some x) : ws.set k x = ws := by
  apply List.ext_getElem?
  intro i
  by_cases e : k = i
  · subst e
    rw [w_eq h, h]
  · rw [List.getElem?_set_ne e]
def nmb (v : Nat) : Nat → Nat := fun j => if j = 0 then v else 0

set_option maxHeartbeats 4000000 in
set_option maxRecDepth 100000 in
theorem c_M_in (l : Launch) (G : xG) (A : Nat → Prop) (ws : va_W) (x lo hi : Int32) : Met l y_M_in (cw_M_in :: TW) { frames := 1, cells := 0, slots := 0, locals := 26 } (va_Pc [.int x, .int lo, .int hi] (x_P G A ws)) (qI G A (fun r w9 => ws = w9 ∧ ((r = nI 1 ∧ ¬ x < lo ∧ ¬ hi < x) ∨ (r = nI 0 ∧ (x < lo ∨ hi < x))))) 0 0 A := by
  refine Met.ofW (cc := b_M_in) (maxL := 3) (ret := (some .boolean)) (by decide) rfl ?_
  intro p e s m args below meth c s₁ B hml hv
  obtain ⟨rfl, hE, hA, hP, hD⟩ := hv
  have hx := B.exec
  have hb := B.bytes
  have hr := B.returns
  have ht : ∀ w ∈ TW, w.before _ s = true := fun w h => atoms_spec (ws := cw_M_in :: TW) B.pre w (List.mem_cons_of_mem _ h)
  have hown : s.vm.findClass R_M = some m.cls := findClass_of_methodNamed B.named
  have hlocks := B.notSynchronized
  have hK := hE.1
  have hS : va_S A s.heap s.heap [] := va_S.rf
  have hl := lv_entry ([.int x, .int lo, .int hi]) (n := 3) (Nat.le_of_ble_eq_true rfl)
  rw [lg_entry_eq]
  generalize (lg_sl ([.int x, .int lo, .int hi]) ++ List.replicate (3 - (lg_sl ([.int x, .int lo, .int hi])).length) Slot.unset).toArray = ls at hl ⊢
  have hl : lv_has ls 3 [(0, .int x), (1, .int lo), (2, .int hi)] := hl
  refine lv_iload_n hx hb d_M_in_0 rfl (lv_at hl 0 rfl) ?_
  refine lv_iload_n hx hb d_M_in_1 rfl (lv_at hl 1 rfl) ?_
  refine lv_icmp_lt (tgt := 14) hx hb d_M_in_2 (by decide) (fun c1 => ?_) (fun c1 => ?_)
  · refine lv_iconst (v := (nI 0)) hx hb d_M_in_14 (by decide) ?_
    exact x_zret hx hb hr hlocks hS hP hD (Nat.le_of_ble_eq_true rfl) (Nat.le_of_ble_eq_true rfl) d_M_in_15 rfl (⟨rfl, Or.inr ⟨rfl, Or.inl c1⟩⟩)
  · refine lv_iload_n hx hb d_M_in_5 rfl (lv_at hl 0 rfl) ?_
    refine lv_iload_n hx hb d_M_in_6 rfl (lv_at hl 2 rfl) ?_
    refine lv_icmp_gt (tgt := 14) hx hb d_M_in_7 (by decide) (fun c2 => ?_) (fun c2 => ?_)
    · refine lv_iconst (v := (nI 0)) hx hb d_M_in_14 (by decide) ?_
      exact x_zret hx hb hr hlocks hS hP hD (Nat.le_of_ble_eq_true rfl) (Nat.le_of_ble_eq_true rfl) d_M_in_15 rfl (⟨rfl, Or.inr ⟨rfl, Or.inr c2⟩⟩)
    · refine lv_iconst (v := (nI 1)) hx hb d_M_in_10 (by decide) ?_
      refine lv_goto (tgt := 15) hx hb d_M_in_11 (by decide) ?_
      exact x_zret hx hb hr hlocks hS hP hD (Nat.le_of_ble_eq_true rfl) (Nat.le_of_ble_eq_true rfl) d_M_in_15 rfl (⟨rfl, Or.inl ⟨rfl, c1, c2⟩⟩)

set_option maxHeartbeats 4000000 in
set_option maxRecDepth 100000 in
theorem c_M_rest (l : Launch) (G : xG) (A : Nat → Prop) (ws : va_W) (x : Int32) : Met l y_M_rest (cw_M_rest :: TW) { frames := 1, cells := 0, slots := 0, locals := 26 } (va_Pc [.int x] (x_P G A ws)) (qI G A (fun r w9 => ws = w9 ∧ r = nI (rm x))) 0 0 A := by
  refine Met.ofW (cc := b_M_rest) (maxL := 1) (ret := (some .int)) (by decide) rfl ?_
  intro p e s m args below meth c s₁ B hml hv
  obtain ⟨rfl, hE, hA, hP, hD⟩ := hv
  have hx := B.exec
  have hb := B.bytes
  have hr := B.returns
  have ht : ∀ w ∈ TW, w.before _ s = true := fun w h => atoms_spec (ws := cw_M_rest :: TW) B.pre w (List.mem_cons_of_mem _ h)
  have hown : s.vm.findClass R_M = some m.cls := findClass_of_methodNamed B.named
  have hlocks := B.notSynchronized
  have hK := hE.1
  have hS : va_S A s.heap s.heap [] := va_S.rf
  have hl := lv_entry ([.int x]) (n := 1) (Nat.le_of_ble_eq_true rfl)
  rw [lg_entry_eq]
  generalize (lg_sl ([.int x]) ++ List.replicate (1 - (lg_sl ([.int x])).length) Slot.unset).toArray = ls at hl ⊢
  have hl : lv_has ls 1 [(0, .int x)] := hl
  refine lv_iload_n hx hb d_M_rest_0 rfl (lv_at hl 0 rfl) ?_
  refine lv_bipush (v := (nI 97)) hx hb d_M_rest_1 (by decide) ?_
  refine lv_irem hx hb d_M_rest_3 (by decide) ?_
  refine lv_bipush (v := (nI 97)) hx hb d_M_rest_4 (by decide) ?_
  refine lv_iadd hx hb d_M_rest_6 ?_
  refine lv_bipush (v := (nI 97)) hx hb d_M_rest_7 (by decide) ?_
  refine lv_irem hx hb d_M_rest_9 (by decide) ?_
  exact x_iret hx hb hr hlocks hS hP hD (Nat.le_of_ble_eq_true rfl) (Nat.le_of_ble_eq_true rfl) d_M_rest_10 (⟨rfl, rest97 x⟩)
