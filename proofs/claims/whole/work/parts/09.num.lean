set_option maxHeartbeats 4000000 in
set_option maxRecDepth 100000 in
theorem c_floorMod (l : Launch) (G : xG) (A : Nat → Prop) (ws : va_W) (x : Int32) : Met l y_MA_floorMod (cw_MA_floorMod :: TW) { frames := 1, cells := 0, slots := 0, locals := 26 } (va_Pc [.int x, .int (nI 97)] (x_P G A ws)) (qI G A (fun r w => ws = w ∧ r = nI (rm x))) 0 0 A := by
  refine va_MetF (cc := b_MA_floorMod) (maxL := 3) (ret := (some .int)) (by decide +kernel) rfl ?_
  intro p e s m args below meth c s₁ B hml hv
  obtain ⟨rfl, hE, hA, hP, hD⟩ := hv
  have hx := B.exec
  have hb := B.bytes
  have hr := B.returns
  have ht : ∀ w ∈ TW, w.before _ s = true := fun w h => atoms_spec (ws := cw_MA_floorMod :: TW) B.pre w (List.mem_cons_of_mem _ h)
  have hown : s.vm.findClass R_MA = some m.cls := findClass_of_methodNamed B.named
  have hlocks := B.notSynchronized
  have hK := hE.1
  have hS : va_S A s.heap s.heap [] := va_S.rf
  have hl := lv_entry ([.int x, .int (nI 97)]) (n := 3) (Nat.le_of_ble_eq_true rfl)
  rw [lg_entry_eq]
  generalize (lg_sl ([.int x, .int (nI 97)]) ++ List.replicate (3 - (lg_sl ([.int x, .int (nI 97)])).length) Slot.unset).toArray = ls at hl ⊢
  have hl : lv_has ls 3 [(0, .int x), (1, .int (nI 97))] := hl
  refine lv_iload_n hx hb d_MA_floorMod_0 rfl (lv_at hl 0 rfl) ?_
  refine lv_iload_n hx hb d_MA_floorMod_1 rfl (lv_at hl 1 rfl) ?_
  refine lv_irem hx hb d_MA_floorMod_2 (by decide) ?_
  refine lv_istore_n (lv' := [(2, .int (x - x / (nI 97) * (nI 97))), (0, .int x), (1, .int (nI 97))]) hx hb d_MA_floorMod_3 rfl hl (by decide) rfl (fun ls hl => ?_)
  refine lv_iload_n hx hb d_MA_floorMod_4 rfl (lv_at hl 1 rfl) ?_
  refine lv_iload_n hx hb d_MA_floorMod_5 rfl (lv_at hl 2 rfl) ?_
  refine lv_ixor hx hb d_MA_floorMod_6 ?_
  refine lv_if_ge (tgt := 18) hx hb d_MA_floorMod_7 (by decide) (fun c1 => ?_) (fun c1 => ?_)
  · refine lv_iload_n hx hb d_MA_floorMod_18 rfl (lv_at hl 0 rfl) ?_
    exact x_iret hx hb hr hlocks hS hP hD (Nat.le_of_ble_eq_true rfl) (Nat.le_of_ble_eq_true rfl) d_MA_floorMod_19 (⟨rfl, fm_a c1⟩)
  · refine lv_iload_n hx hb d_MA_floorMod_10 rfl (lv_at hl 0 rfl) ?_
    refine lv_if_eq (tgt := 18) hx hb d_MA_floorMod_11 (by decide) (fun c2 => ?_) (fun c2 => ?_)
    · refine lv_iload_n hx hb d_MA_floorMod_18 rfl (lv_at hl 0 rfl) ?_
      exact x_iret hx hb hr hlocks hS hP hD (Nat.le_of_ble_eq_true rfl) (Nat.le_of_ble_eq_true rfl) d_MA_floorMod_19 (⟨rfl, fm_b c2⟩)
    · refine lv_iload_n hx hb d_MA_floorMod_14 rfl (lv_at hl 0 rfl) ?_
      refine lv_iload_n hx hb d_MA_floorMod_15 rfl (lv_at hl 2 rfl) ?_
      refine lv_iadd hx hb d_MA_floorMod_16 ?_
      exact x_iret hx hb hr hlocks hS hP hD (Nat.le_of_ble_eq_true rfl) (Nat.le_of_ble_eq_true rfl) d_MA_floorMod_17 (⟨rfl, fm_c c1 c2⟩)

set_option maxHeartbeats 4000000 in
set_option maxRecDepth 100000 in
theorem c_remainder (l : Launch) (G : xG) (A : Nat → Prop) (ws : va_W) (x : Int32) : Met l y_C_remainder (cw_C_remainder :: TW) { frames := 2, cells := 0, slots := 0, locals := 52 } (va_Pc [.int x] (x_P G A ws)) (qI G A (fun r w => ws = w ∧ r = nI (rm x))) 0 0 A := by
  refine Met.ofW (cc := b_C_remainder) (maxL := 1) (ret := (some .int)) (by decide) rfl ?_
  intro p e s m args below meth c s₁ B hml hv
  obtain ⟨rfl, hE, hA, hP, hD⟩ := hv
  have hx := B.exec
  have hb := B.bytes
  have hr := B.returns
  have ht : ∀ w ∈ TW, w.before _ s = true := fun w h => atoms_spec (ws := cw_C_remainder :: TW) B.pre w (List.mem_cons_of_mem _ h)
  have hown : s.vm.findClass R_C = some m.cls := findClass_of_methodNamed B.named
  have hlocks := B.notSynchronized
  have hK := hE.1
  have hS : va_S A s.heap s.heap [] := va_S.rf
  have hl := lv_entry ([.int x]) (n := 1) (Nat.le_of_ble_eq_true rfl)
  rw [lg_entry_eq]
  generalize (lg_sl ([.int x]) ++ List.replicate (1 - (lg_sl ([.int x])).length) Slot.unset).toArray = ls at hl ⊢
  have hl : lv_has ls 1 [(0, .int x)] := hl
  refine lv_iload_n hx hb d_C_remainder_0 rfl (lv_at hl 0 rfl) ?_
  refine lv_bipush (v := (nI 97)) hx hb d_C_remainder_1 (by decide) ?_
  refine x_calli (va_runS (As := [.int x, .int (nI 97)]) (rest := []) ⟨hx, hb, hml, hown, ht⟩ (c_floorMod l G A ws x) (va_cwS 2 ht (TW_S k_ml_C_175 k_st_MA_floorMod k_in_MA k_code_MA_floorMod) rfl rfl rfl hv_MA_floorMod.2 ⟨Nat.le_of_ble_eq_true rfl, Nat.le_of_ble_eq_true rfl⟩) ⟨x_blind, x_pre hE hA hS hP hD⟩ rfl rfl hl.1 rfl (lv_room (Nat.le_of_ble_eq_true rfl)) d_C_remainder_3 ⟨Nat.le_of_ble_eq_true rfl, Nat.le_of_ble_eq_true rfl⟩) hS (fun r3 w2 H locs q1 hP hD hS => ?_)
  obtain ⟨rfl, rfl⟩ := q1
  exact x_iret hx hb hr hlocks hS hP hD (Nat.le_of_ble_eq_true rfl) (Nat.le_of_ble_eq_true rfl) d_C_remainder_6 (⟨rfl, rfl⟩)

set_option maxHeartbeats 4000000 in
set_option maxRecDepth 100000 in
theorem c_inverse (l : Launch) (G : xG) (A : Nat → Prop) (ws : va_W) (v : Nat) (hv : v < 97) : Met l y_C_inverseOrZero (cw_C_inverseOrZero :: TW) { frames := 1, cells := 0, slots := 0, locals := 26 } (va_Pc [.int (nI v)] (x_P G A ws)) (qI G A (fun r w => ws = w ∧ r = nI (inv97 v))) 0 0 A := by
  refine Met.ofW (cc := b_C_inverseOrZero) (maxL := 2) (ret := (some .int)) (by decide) rfl ?_
  intro p e s m args below meth c s₁ B hml hv
  obtain ⟨rfl, hE, hA, hP, hD⟩ := hv
  have hx := B.exec
  have hb := B.bytes
  have hr := B.returns
  have ht : ∀ w ∈ TW, w.before _ s = true := fun w h => atoms_spec (ws := cw_C_inverseOrZero :: TW) B.pre w (List.mem_cons_of_mem _ h)
  have hown : s.vm.findClass R_C = some m.cls := findClass_of_methodNamed B.named
  have hlocks := B.notSynchronized
  have hK := hE.1
  have hS : va_S A s.heap s.heap [] := va_S.rf
  have hl := lv_entry ([.int (nI v)]) (n := 2) (Nat.le_of_ble_eq_true rfl)
  rw [lg_entry_eq]
  generalize (lg_sl ([.int (nI v)]) ++ List.replicate (2 - (lg_sl ([.int (nI v)])).length) Slot.unset).toArray = ls at hl ⊢
  have hl : lv_has ls 2 [(0, .int (nI v))] := hl
  refine lv_iconst (v := (nI 1)) hx hb d_C_inverseOrZero_0 (by decide) ?_
  refine lv_istore_n (lv' := [(1, .int (nI 1)), (0, .int (nI v))]) hx hb d_C_inverseOrZero_1 rfl hl (by decide) rfl (fun ls hl => ?_)
  have loop : ∀ (n k : Nat), k + n = 97 → ∀ ls : Array Slot, invF v n k = inv97 v → lv_has ls 2 [(1, .int (nI k)), (0, .int (nI v))] → W p l e (headSpec (cw_C_inverseOrZero :: TW) { frames := 1, cells := 0, slots := 0, locals := 26 }).room s m ([.int (nI v)] : List Value).toArray below meth c s.heap [] 0 0 (MQ below (qI G A (fun r w => ws = w ∧ r = nI (inv97 v))) ([.int (nI v)] : List Value).toArray s 0 0 A) (F0 m 2 ls []) := by
    intro n
    induction n with
    | zero =>
      intro k hk ls hi hl
      refine lv_iload_n hx hb d_C_inverseOrZero_2 rfl (lv_at hl 0 rfl) ?_
      refine lv_bipush (v := (nI 97)) hx hb d_C_inverseOrZero_3 (by decide) ?_
      refine x_ge hx hb k 97 rfl rfl (by omega) (by omega) (tgt := 26) d_C_inverseOrZero_5 (by decide) (fun c1 => ?_) (fun c1 => ?_)
      · refine lv_iconst (v := (nI 0)) hx hb d_C_inverseOrZero_26 (by decide) ?_
        exact x_iret hx hb hr hlocks hS hP hD (Nat.le_of_ble_eq_true rfl) (Nat.le_of_ble_eq_true rfl) d_C_inverseOrZero_27 (⟨rfl, by rw [← hi]; rfl⟩)
      · exact False.elim (by omega)
    | succ n ih =>
      intro k hk ls hi hl
      refine lv_iload_n hx hb d_C_inverseOrZero_2 rfl (lv_at hl 0 rfl) ?_
      refine lv_bipush (v := (nI 97)) hx hb d_C_inverseOrZero_3 (by decide) ?_
      refine x_ge hx hb k 97 rfl rfl (by omega) (by omega) (tgt := 26) d_C_inverseOrZero_5 (by decide) (fun c2 => ?_) (fun c2 => ?_)
      · exact False.elim (by omega)
      · refine lv_iload_n hx hb d_C_inverseOrZero_8 rfl (lv_at hl 1 rfl) ?_
        refine lv_iload_n hx hb d_C_inverseOrZero_9 rfl (lv_at hl 0 rfl) ?_
        have hb2 : v * k ≤ 96 * 96 := Nat.mul_le_mul (by omega) (by omega)
        refine lv_imul hx hb d_C_inverseOrZero_10 ?_
        refine x_top (nI (v * k)) (pk_mul _ _) ?_
        refine lv_bipush (v := (nI 97)) hx hb d_C_inverseOrZero_11 (by decide) ?_
        refine lv_irem hx hb d_C_inverseOrZero_13 (by decide) ?_
        refine x_top (nI ((v * k) % 97)) (pk_rem (by omega) (by omega) (by omega)) ?_
        refine lv_iconst (v := (nI 1)) hx hb d_C_inverseOrZero_14 (by decide) ?_
        refine x_ne hx hb ((v * k) % 97) 1 rfl rfl (by omega) (by omega) (tgt := 20) d_C_inverseOrZero_15 (by decide) (fun c3 => ?_) (fun c3 => ?_)
        · refine lv_iinc (v := nI (k + 1)) (lv' := [(1, .int (nI (k + 1))), (0, .int (nI v))]) hx hb d_C_inverseOrZero_20 hl (k := 0) rfl (n_inc _) (by decide) rfl (fun ls hl => ?_)
          refine lv_goto (tgt := 2) hx hb d_C_inverseOrZero_23 (by decide) ?_
          exact ih (k + 1) (by omega) ls (by rw [← hi]; show _ = (if v * k % 97 = 1 then k else invF v n (k + 1)); rw [if_neg c3]) hl
        · refine lv_iload_n hx hb d_C_inverseOrZero_18 rfl (lv_at hl 0 rfl) ?_
          exact x_iret hx hb hr hlocks hS hP hD (Nat.le_of_ble_eq_true rfl) (Nat.le_of_ble_eq_true rfl) d_C_inverseOrZero_19 (⟨rfl, by rw [← hi]; show _ = nI (if v * k % 97 = 1 then k else invF v n (k + 1)); rw [if_pos c3]⟩)
  exact loop 96 1 (by decide) ls rfl hl
