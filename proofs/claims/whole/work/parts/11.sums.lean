/-- a row of 60 numbers of the field -/
def isW (G : xG) (ws : va_W) (a : Nat) (w : Nat → Nat) : Prop := ∃ (k : Nat) (h : Nat → Int32), ws[k]? = some (a, aI G 60 h) ∧ (∀ j, j < 60 → h j = nI (w j)) ∧ ∀ j, j < 60 → w j < 97

set_option maxHeartbeats 4000000 in
set_option maxRecDepth 100000 in
theorem c_S_plus (l : Launch) (G : xG) (A : Nat → Prop) (ws : va_W) (o o2 : Nat) (f g : Nat → Nat) (hf : isS G ws o f) (hg : isS G ws o2 g) : Met l y_S_plus (cw_S_plus :: TW) { frames := 4, cells := 2, slots := 61, locals := 104 } (va_Pc [.ref o, .ref o2] (x_P G A ws)) (qR G A (mkS G ws (cmb 1 f 1 g))) 2 61 A := by
  refine Met.ofW (cc := b_S_plus) (maxL := 2) (ret := (some (.object "ConstraintCompiler$Sum"))) (by decide) rfl ?_
  intro p e s m args below meth c s₁ B hml hv
  obtain ⟨rfl, hE, hA, hP, hD⟩ := hv
  have hx := B.exec
  have hb := B.bytes
  have hr := B.returns
  have ht : ∀ w ∈ TW, w.before _ s = true := fun w h => atoms_spec (ws := cw_S_plus :: TW) B.pre w (List.mem_cons_of_mem _ h)
  have hown : s.vm.findClass R_S = some m.cls := findClass_of_methodNamed B.named
  have hlocks := B.notSynchronized
  have hK := hE.1
  have hS : va_S A s.heap s.heap [] := va_S.rf
  have hl := lv_entry ([.ref o, .ref o2]) (n := 2) (Nat.le_of_ble_eq_true rfl)
  rw [lg_entry_eq]
  generalize (lg_sl ([.ref o, .ref o2]) ++ List.replicate (2 - (lg_sl ([.ref o, .ref o2])).length) Slot.unset).toArray = ls at hl ⊢
  have hl : lv_has ls 2 [(0, .ref o), (1, .ref o2)] := hl
  obtain ⟨k1, k1', ca1, f0, hf1, hf2, hf3⟩ := id hf
  refine lv_aload_n hx hb d_S_plus_0 rfl (lv_at hl 0 rfl) ?_
  refine lv_aload_n hx hb d_S_plus_1 rfl (lv_at hl 1 rfl) ?_
  refine lv_iconst (v := (nI 1)) hx hb d_S_plus_2 (by decide) ?_
  refine lv_iconst (v := (nI 1)) hx hb d_S_plus_3 (by decide) ?_
  refine x_callr (va_runV (As := [.ref o2, .int (nI 1), .int (nI 1)]) (rest := []) ⟨hx, hb, hml, hown, ht⟩ (c_S_comb l G A ws o o2 1 1 f g hf hg (by decide) (by decide)) (cwV 3 ht (TW_V k_ml_S_16 k_im_S_combinedWith k_se_S_combinedWith k_in_S k_code_S_combinedWith) rfl rfl rfl hv_S_combinedWith ⟨Nat.le_of_ble_eq_true rfl, Nat.le_of_ble_eq_true rfl⟩) ⟨x_blind, va_recv hK hP rfl hf1, x_pre hE hA hS hP hD⟩ rfl rfl hl.1 rfl (lv_room (Nat.le_of_ble_eq_true rfl)) d_S_plus_4 ⟨Nat.le_of_ble_eq_true rfl, Nat.le_of_ble_eq_true rfl⟩) hS (fun r3 w2 H locs q1 hP hD hS => ?_)
  refine W.widen (k := 2) (n := 61) (Nat.le_of_ble_eq_true rfl) (Nat.le_of_ble_eq_true rfl) ?_
  exact x_aret hx hb hr (Or.inl ⟨_, rfl⟩) hlocks hS hP hD (Nat.le_of_ble_eq_true rfl) (Nat.le_of_ble_eq_true rfl) d_S_plus_7 (q1)

set_option maxHeartbeats 4000000 in
set_option maxRecDepth 100000 in
theorem c_S_minus (l : Launch) (G : xG) (A : Nat → Prop) (ws : va_W) (o o2 : Nat) (f g : Nat → Nat) (hf : isS G ws o f) (hg : isS G ws o2 g) : Met l y_S_minus (cw_S_minus :: TW) { frames := 4, cells := 2, slots := 61, locals := 104 } (va_Pc [.ref o, .ref o2] (x_P G A ws)) (qR G A (mkS G ws (cmb 1 f 96 g))) 2 61 A := by
  refine Met.ofW (cc := b_S_minus) (maxL := 2) (ret := (some (.object "ConstraintCompiler$Sum"))) (by decide) rfl ?_
  intro p e s m args below meth c s₁ B hml hv
  obtain ⟨rfl, hE, hA, hP, hD⟩ := hv
  have hx := B.exec
  have hb := B.bytes
  have hr := B.returns
  have ht : ∀ w ∈ TW, w.before _ s = true := fun w h => atoms_spec (ws := cw_S_minus :: TW) B.pre w (List.mem_cons_of_mem _ h)
  have hown : s.vm.findClass R_S = some m.cls := findClass_of_methodNamed B.named
  have hlocks := B.notSynchronized
  have hK := hE.1
  have hS : va_S A s.heap s.heap [] := va_S.rf
  have hl := lv_entry ([.ref o, .ref o2]) (n := 2) (Nat.le_of_ble_eq_true rfl)
  rw [lg_entry_eq]
  generalize (lg_sl ([.ref o, .ref o2]) ++ List.replicate (2 - (lg_sl ([.ref o, .ref o2])).length) Slot.unset).toArray = ls at hl ⊢
  have hl : lv_has ls 2 [(0, .ref o), (1, .ref o2)] := hl
  obtain ⟨k1, k1', ca1, f0, hf1, hf2, hf3⟩ := id hf
  refine lv_aload_n hx hb d_S_minus_0 rfl (lv_at hl 0 rfl) ?_
  refine lv_aload_n hx hb d_S_minus_1 rfl (lv_at hl 1 rfl) ?_
  refine lv_iconst (v := (nI 1)) hx hb d_S_minus_2 (by decide) ?_
  refine lv_bipush (v := (nI 96)) hx hb d_S_minus_3 (by decide) ?_
  refine x_callr (va_runV (As := [.ref o2, .int (nI 1), .int (nI 96)]) (rest := []) ⟨hx, hb, hml, hown, ht⟩ (c_S_comb l G A ws o o2 1 96 f g hf hg (by decide) (by decide)) (cwV 3 ht (TW_V k_ml_S_16 k_im_S_combinedWith k_se_S_combinedWith k_in_S k_code_S_combinedWith) rfl rfl rfl hv_S_combinedWith ⟨Nat.le_of_ble_eq_true rfl, Nat.le_of_ble_eq_true rfl⟩) ⟨x_blind, va_recv hK hP rfl hf1, x_pre hE hA hS hP hD⟩ rfl rfl hl.1 rfl (lv_room (Nat.le_of_ble_eq_true rfl)) d_S_minus_5 ⟨Nat.le_of_ble_eq_true rfl, Nat.le_of_ble_eq_true rfl⟩) hS (fun r3 w2 H locs q1 hP hD hS => ?_)
  refine W.widen (k := 2) (n := 61) (Nat.le_of_ble_eq_true rfl) (Nat.le_of_ble_eq_true rfl) ?_
  exact x_aret hx hb hr (Or.inl ⟨_, rfl⟩) hlocks hS hP hD (Nat.le_of_ble_eq_true rfl) (Nat.le_of_ble_eq_true rfl) d_S_minus_8 (q1)

set_option maxHeartbeats 4000000 in
set_option maxRecDepth 100000 in
theorem c_S_scaled (l : Launch) (G : xG) (A : Nat → Prop) (ws : va_W) (o t : Nat) (f : Nat → Nat) (hf : isS G ws o f) (ht9 : t < 97) : Met l y_S_scaledBy (cw_S_scaledBy :: TW) { frames := 4, cells := 2, slots := 61, locals := 104 } (va_Pc [.ref o, .int (nI t)] (x_P G A ws)) (qR G A (mkS G ws (cmb t f 0 f))) 2 61 A := by
  refine Met.ofW (cc := b_S_scaledBy) (maxL := 2) (ret := (some (.object "ConstraintCompiler$Sum"))) (by decide) rfl ?_
  intro p e s m args below meth c s₁ B hml hv
  obtain ⟨rfl, hE, hA, hP, hD⟩ := hv
  have hx := B.exec
  have hb := B.bytes
  have hr := B.returns
  have ht : ∀ w ∈ TW, w.before _ s = true := fun w h => atoms_spec (ws := cw_S_scaledBy :: TW) B.pre w (List.mem_cons_of_mem _ h)
  have hown : s.vm.findClass R_S = some m.cls := findClass_of_methodNamed B.named
  have hlocks := B.notSynchronized
  have hK := hE.1
  have hS : va_S A s.heap s.heap [] := va_S.rf
  have hl := lv_entry ([.ref o, .int (nI t)]) (n := 2) (Nat.le_of_ble_eq_true rfl)
  rw [lg_entry_eq]
  generalize (lg_sl ([.ref o, .int (nI t)]) ++ List.replicate (2 - (lg_sl ([.ref o, .int (nI t)])).length) Slot.unset).toArray = ls at hl ⊢
  have hl : lv_has ls 2 [(0, .ref o), (1, .int (nI t))] := hl
  obtain ⟨k1, k1', ca1, f0, hf1, hf2, hf3⟩ := id hf
  refine lv_aload_n hx hb d_S_scaledBy_0 rfl (lv_at hl 0 rfl) ?_
  refine lv_aload_n hx hb d_S_scaledBy_1 rfl (lv_at hl 0 rfl) ?_
  refine lv_iload_n hx hb d_S_scaledBy_2 rfl (lv_at hl 1 rfl) ?_
  refine lv_iconst (v := (nI 0)) hx hb d_S_scaledBy_3 (by decide) ?_
  refine x_callr (va_runV (As := [.ref o, .int (nI t), .int (nI 0)]) (rest := []) ⟨hx, hb, hml, hown, ht⟩ (c_S_comb l G A ws o o t 0 f f hf hf ht9 (by decide)) (cwV 3 ht (TW_V k_ml_S_16 k_im_S_combinedWith k_se_S_combinedWith k_in_S k_code_S_combinedWith) rfl rfl rfl hv_S_combinedWith ⟨Nat.le_of_ble_eq_true rfl, Nat.le_of_ble_eq_true rfl⟩) ⟨x_blind, va_recv hK hP rfl hf1, x_pre hE hA hS hP hD⟩ rfl rfl hl.1 rfl (lv_room (Nat.le_of_ble_eq_true rfl)) d_S_scaledBy_4 ⟨Nat.le_of_ble_eq_true rfl, Nat.le_of_ble_eq_true rfl⟩) hS (fun r3 w2 H locs q1 hP hD hS => ?_)
  refine W.widen (k := 2) (n := 61) (Nat.le_of_ble_eq_true rfl) (Nat.le_of_ble_eq_true rfl) ?_
  exact x_aret hx hb hr (Or.inl ⟨_, rfl⟩) hlocks hS hP hD (Nat.le_of_ble_eq_true rfl) (Nat.le_of_ble_eq_true rfl) d_S_scaledBy_7 (q1)

set_option maxHeartbeats 4000000 in
set_option maxRecDepth 100000 in
theorem c_S_last (l : Launch) (G : xG) (A : Nat → Prop) (ws : va_W) (o : Nat) (f : Nat → Nat) (hf : isS G ws o f) : Met l y_S_lastVariable (cw_S_lastVariable :: TW) { frames := 1, cells := 0, slots := 0, locals := 26 } (va_Pc [.ref o] (x_P G A ws)) (qI G A (fun r w => ws = w ∧ r = nI (lastV f 59))) 0 0 A := by
  refine Met.ofW (cc := b_S_lastVariable) (maxL := 2) (ret := (some .int)) (by decide) rfl ?_
  intro p e s m args below meth c s₁ B hml hv
  obtain ⟨rfl, hE, hA, hP, hD⟩ := hv
  have hx := B.exec
  have hb := B.bytes
  have hr := B.returns
  have ht : ∀ w ∈ TW, w.before _ s = true := fun w h => atoms_spec (ws := cw_S_lastVariable :: TW) B.pre w (List.mem_cons_of_mem _ h)
  have hown : s.vm.findClass R_S = some m.cls := findClass_of_methodNamed B.named
  have hlocks := B.notSynchronized
  have hK := hE.1
  have hS : va_S A s.heap s.heap [] := va_S.rf
  have hl := lv_entry ([.ref o]) (n := 2) (Nat.le_of_ble_eq_true rfl)
  rw [lg_entry_eq]
  generalize (lg_sl ([.ref o]) ++ List.replicate (2 - (lg_sl ([.ref o])).length) Slot.unset).toArray = ls at hl ⊢
  have hl : lv_has ls 2 [(0, .ref o)] := hl
  obtain ⟨k1, k1', ca1, f0, hf1, hf2, -, -, hf5, hf6⟩ := hf
  refine lv_bipush (v := (nI 59)) hx hb d_S_lastVariable_0 (by decide) ?_
  refine lv_istore_n (lv' := [(1, .int (nI 59)), (0, .ref o)]) hx hb d_S_lastVariable_2 rfl hl (by decide) rfl (fun ls hl => ?_)
  have loop : ∀ i : Nat, i < 60 → lastV f i = lastV f 59 → ∀ ls : Array Slot, lv_has ls 2 [(1, .int (nI i)), (0, .ref o)] → W p l e (headSpec (cw_S_lastVariable :: TW) { frames := 1, cells := 0, slots := 0, locals := 26 }).room s m ([.ref o] : List Value).toArray below meth c s.heap [] 0 0 (MQ below (qI G A (fun r w => ws = w ∧ r = nI (lastV f 59))) ([.ref o] : List Value).toArray s 0 0 A) (F0 m 3 ls []) := by
    intro i
    induction i with
    | zero =>
      intro hi he ls hl
      refine lv_iload_n hx hb d_S_lastVariable_3 rfl (lv_at hl 0 rfl) ?_
      refine x_if_le hx hb 0 rfl (by omega) (tgt := 24) d_S_lastVariable_4 (by decide) (fun c1 => ?_) (fun c1 => ?_)
      · refine lv_iconst (v := (nI 0)) hx hb d_S_lastVariable_24 (by decide) ?_
        exact x_iret hx hb hr hlocks hS hP hD (Nat.le_of_ble_eq_true rfl) (Nat.le_of_ble_eq_true rfl) d_S_lastVariable_25 (⟨rfl, by rw [← he]; rfl⟩)
      · exact False.elim (by omega)
    | succ i ih =>
      intro hi he ls hl
      refine lv_iload_n hx hb d_S_lastVariable_3 rfl (lv_at hl 0 rfl) ?_
      refine x_if_le hx hb (i + 1) rfl (by omega) (tgt := 24) d_S_lastVariable_4 (by decide) (fun c2 => ?_) (fun c2 => ?_)
      · exact False.elim (by omega)
      · refine lv_aload_n hx hb d_S_lastVariable_7 rfl (lv_at hl 1 rfl) ?_
        refine va_get (D := xD G) (ci := 1) (C := R_S) (T := F_S) (N := 1) hx hb ht in_S hown hK hP k1 hf1 rfl 0 (by decide) (ht _ k_fl_S_9) (fun _ h9 => h9) rfl d_S_lastVariable_8 ?_
        refine lv_iload_n hx hb d_S_lastVariable_11 rfl (lv_at hl 0 rfl) ?_
        refine x_iald hx hb hK hP hf2 (i + 1) rfl (by omega) (by omega) d_S_lastVariable_12 ?_
        refine x_top (nI (f (i + 1))) (hf5 (i + 1) (by omega)) ?_
        have hf9 := hf6 (i + 1) (by omega)
        refine x_if_eq hx hb (f (i + 1)) rfl (by omega) (tgt := 18) d_S_lastVariable_13 (by decide) (fun c3 => ?_) (fun c3 => ?_)
        · refine lv_iinc (v := nI i) (lv' := [(1, .int (nI i)), (0, .ref o)]) hx hb d_S_lastVariable_18 hl (k := 0) rfl (by rw [litm1]; exact pk_m1 _) (by decide) rfl (fun ls hl => ?_)
          refine lv_goto (tgt := 3) hx hb d_S_lastVariable_21 (by decide) ?_
          exact ih (by omega) (by rw [← he]; show _ = (if f (i + 1) = 0 then lastV f i else i + 1); rw [if_pos c3]) ls hl
        · refine lv_iload_n hx hb d_S_lastVariable_16 rfl (lv_at hl 0 rfl) ?_
          exact x_iret hx hb hr hlocks hS hP hD (Nat.le_of_ble_eq_true rfl) (Nat.le_of_ble_eq_true rfl) d_S_lastVariable_17 (⟨rfl, by rw [← he]; show _ = nI (if f (i + 1) = 0 then lastV f i else i + 1); rw [if_neg c3]⟩)
  exact loop 59 (by decide) rfl ls hl

set_option maxHeartbeats 4000000 in
set_option maxRecDepth 100000 in
theorem c_S_const (l : Launch) (G : xG) (A : Nat → Prop) (ws : va_W) (o : Nat) (f : Nat → Nat) (hf : isS G ws o f) : Met l y_S_isConstant (cw_S_isConstant :: TW) { frames := 2, cells := 0, slots := 0, locals := 52 } (va_Pc [.ref o] (x_P G A ws)) (qI G A (fun r w => ws = w ∧ ((r = nI 1 ∧ lastV f 59 = 0) ∨ (r = nI 0 ∧ lastV f 59 ≠ 0)))) 0 0 A := by
  refine Met.ofW (cc := b_S_isConstant) (maxL := 1) (ret := (some .boolean)) (by decide) rfl ?_
  intro p e s m args below meth c s₁ B hml hv
  obtain ⟨rfl, hE, hA, hP, hD⟩ := hv
  have hx := B.exec
  have hb := B.bytes
  have hr := B.returns
  have ht : ∀ w ∈ TW, w.before _ s = true := fun w h => atoms_spec (ws := cw_S_isConstant :: TW) B.pre w (List.mem_cons_of_mem _ h)
  have hown : s.vm.findClass R_S = some m.cls := findClass_of_methodNamed B.named
  have hlocks := B.notSynchronized
  have hK := hE.1
  have hS : va_S A s.heap s.heap [] := va_S.rf
  have hl := lv_entry ([.ref o]) (n := 1) (Nat.le_of_ble_eq_true rfl)
  rw [lg_entry_eq]
  generalize (lg_sl ([.ref o]) ++ List.replicate (1 - (lg_sl ([.ref o])).length) Slot.unset).toArray = ls at hl ⊢
  have hl : lv_has ls 1 [(0, .ref o)] := hl
  obtain ⟨k1, k1', ca1, f0, hf1, hf2, hf3⟩ := id hf
  refine lv_aload_n hx hb d_S_isConstant_0 rfl (lv_at hl 0 rfl) ?_
  refine x_calli (va_runV (As := []) (rest := []) ⟨hx, hb, hml, hown, ht⟩ (c_S_last l G A ws o f hf) (cwV 0 ht (TW_V k_ml_S_24 k_im_S_lastVariable k_se_S_lastVariable k_in_S k_code_S_lastVariable) rfl rfl rfl hv_S_lastVariable ⟨Nat.le_of_ble_eq_true rfl, Nat.le_of_ble_eq_true rfl⟩) ⟨x_blind, va_recv hK hP rfl hf1, x_pre hE hA hS hP hD⟩ rfl rfl hl.1 rfl (lv_room (Nat.le_of_ble_eq_true rfl)) d_S_isConstant_1 ⟨Nat.le_of_ble_eq_true rfl, Nat.le_of_ble_eq_true rfl⟩) hS (fun r3 w2 H locs q1 hP hD hS => ?_)
  obtain ⟨rfl, rfl⟩ := q1
  have h59 := lastV_le f 59
  refine x_if_ne hx hb (lastV f 59) rfl (by omega) (tgt := 11) d_S_isConstant_4 (by decide) (fun c4 => ?_) (fun c4 => ?_)
  · refine lv_iconst (v := (nI 0)) hx hb d_S_isConstant_11 (by decide) ?_
    exact x_zret hx hb hr hlocks hS hP hD (Nat.le_of_ble_eq_true rfl) (Nat.le_of_ble_eq_true rfl) d_S_isConstant_12 rfl (⟨rfl, Or.inr ⟨rfl, c4⟩⟩)
  · refine lv_iconst (v := (nI 1)) hx hb d_S_isConstant_7 (by decide) ?_
    refine lv_goto (tgt := 12) hx hb d_S_isConstant_8 (by decide) ?_
    exact x_zret hx hb hr hlocks hS hP hD (Nat.le_of_ble_eq_true rfl) (Nat.le_of_ble_eq_true rfl) d_S_isConstant_12 rfl (⟨rfl, Or.inl ⟨rfl, c4⟩⟩)

set_option maxHeartbeats 4000000 in
set_option maxRecDepth 100000 in
theorem c_S_terms (l : Launch) (G : xG) (A : Nat → Prop) (ws : va_W) (o : Nat) (f : Nat → Nat) (hf : isS G ws o f) : Met l y_S_howManyTerms (cw_S_howManyTerms :: TW) { frames := 1, cells := 0, slots := 0, locals := 26 } (va_Pc [.ref o] (x_P G A ws)) (qI G A (fun r w => ws = w ∧ r = nI (nz f 60))) 0 0 A := by
  refine Met.ofW (cc := b_S_howManyTerms) (maxL := 3) (ret := (some .int)) (by decide) rfl ?_
  intro p e s m args below meth c s₁ B hml hv
  obtain ⟨rfl, hE, hA, hP, hD⟩ := hv
  have hx := B.exec
  have hb := B.bytes
  have hr := B.returns
  have ht : ∀ w ∈ TW, w.before _ s = true := fun w h => atoms_spec (ws := cw_S_howManyTerms :: TW) B.pre w (List.mem_cons_of_mem _ h)
  have hown : s.vm.findClass R_S = some m.cls := findClass_of_methodNamed B.named
  have hlocks := B.notSynchronized
  have hK := hE.1
  have hS : va_S A s.heap s.heap [] := va_S.rf
  have hl := lv_entry ([.ref o]) (n := 3) (Nat.le_of_ble_eq_true rfl)
  rw [lg_entry_eq]
  generalize (lg_sl ([.ref o]) ++ List.replicate (3 - (lg_sl ([.ref o])).length) Slot.unset).toArray = ls at hl ⊢
  have hl : lv_has ls 3 [(0, .ref o)] := hl
  obtain ⟨k1, k1', ca1, f0, hf1, hf2, -, -, hf5, hf6⟩ := hf
  refine lv_iconst (v := (nI 0)) hx hb d_S_howManyTerms_0 (by decide) ?_
  refine lv_istore_n (lv' := [(1, .int (nI 0)), (0, .ref o)]) hx hb d_S_howManyTerms_1 rfl hl (by decide) rfl (fun ls hl => ?_)
  refine lv_iconst (v := (nI 0)) hx hb d_S_howManyTerms_2 (by decide) ?_
  refine lv_istore_n (lv' := [(2, .int (nI 0)), (1, .int (nI 0)), (0, .ref o)]) hx hb d_S_howManyTerms_3 rfl hl (by decide) rfl (fun ls hl => ?_)
  have loop : ∀ (n i : Nat), i + n = 60 → ∀ (ls : Array Slot), lv_has ls 3 [(2, .int (nI i)), (1, .int (nI (nz f i))), (0, .ref o)] → W p l e (headSpec (cw_S_howManyTerms :: TW) { frames := 1, cells := 0, slots := 0, locals := 26 }).room s m ([.ref o] : List Value).toArray below meth c s.heap [] 0 0 (MQ below (qI G A (fun r w => ws = w ∧ r = nI (nz f 60))) ([.ref o] : List Value).toArray s 0 0 A) (F0 m 4 ls []) := by
    intro n
    induction n with
    | zero =>
      intro i hi  ls  hl
      refine lv_iload_n hx hb d_S_howManyTerms_4 rfl (lv_at hl 0 rfl) ?_
      refine lv_bipush (v := (nI 60)) hx hb d_S_howManyTerms_5 (by decide) ?_
      refine x_ge hx hb i 60 rfl rfl (by omega) (by omega) (tgt := 28) d_S_howManyTerms_7 (by decide) (fun c1 => ?_) (fun c1 => ?_)
      · have i0 : i = 60 := by omega
        refine lv_iload_n hx hb d_S_howManyTerms_28 rfl (lv_at hl 1 rfl) ?_
        exact x_iret hx hb hr hlocks hS hP hD (Nat.le_of_ble_eq_true rfl) (Nat.le_of_ble_eq_true rfl) d_S_howManyTerms_29 (⟨rfl, by rw [i0]⟩)
      · exact False.elim (by omega)
    | succ n ih =>
      intro i hi  ls  hl
      refine lv_iload_n hx hb d_S_howManyTerms_4 rfl (lv_at hl 0 rfl) ?_
      refine lv_bipush (v := (nI 60)) hx hb d_S_howManyTerms_5 (by decide) ?_
      refine x_ge hx hb i 60 rfl rfl (by omega) (by omega) (tgt := 28) d_S_howManyTerms_7 (by decide) (fun c2 => ?_) (fun c2 => ?_)
      · exact False.elim (by omega)
      · refine lv_aload_n hx hb d_S_howManyTerms_10 rfl (lv_at hl 2 rfl) ?_
        refine va_get (D := xD G) (ci := 1) (C := R_S) (T := F_S) (N := 1) hx hb ht in_S hown hK hP k1 hf1 rfl 0 (by decide) (ht _ k_fl_S_9) (fun _ h9 => h9) rfl d_S_howManyTerms_11 ?_
        refine lv_iload_n hx hb d_S_howManyTerms_14 rfl (lv_at hl 0 rfl) ?_
        refine x_iald hx hb hK hP hf2 i rfl (by omega) (by omega) d_S_howManyTerms_15 ?_
        refine x_top (nI (f i)) (hf5 i (by omega)) ?_
        have hf9 := hf6 i (by omega)
        refine x_if_eq hx hb (f i) rfl (by omega) (tgt := 22) d_S_howManyTerms_16 (by decide) (fun c3 => ?_) (fun c3 => ?_)
        · refine lv_iinc (v := nI (i + 1)) (lv' := [(2, .int (nI (i + 1))), (1, .int (nI (nz f i))), (0, .ref o)]) hx hb d_S_howManyTerms_22 hl (k := 0) rfl (n_inc _) (by decide) rfl (fun ls hl => ?_)
          refine lv_goto (tgt := 4) hx hb d_S_howManyTerms_25 (by decide) ?_
          have e9 : nz f (i + 1) = nz f i := by show nz f i + (if f i = 0 then 0 else 1) = nz f i; rw [if_pos c3, Nat.add_zero]
          exact ih (i + 1) (by omega) ls (by rw [e9]; exact (lv_sub hl [0, 1, 2] rfl))
        · refine lv_iinc (v := nI (nz f i + 1)) (lv' := [(1, .int (nI (nz f i + 1))), (2, .int (nI i)), (0, .ref o)]) hx hb d_S_howManyTerms_19 hl (k := 1) rfl (n_inc _) (by decide) rfl (fun ls hl => ?_)
          refine lv_iinc (v := nI (i + 1)) (lv' := [(2, .int (nI (i + 1))), (1, .int (nI (nz f i + 1))), (0, .ref o)]) hx hb d_S_howManyTerms_22 hl (k := 1) rfl (n_inc _) (by decide) rfl (fun ls hl => ?_)
          refine lv_goto (tgt := 4) hx hb d_S_howManyTerms_25 (by decide) ?_
          have e9 : nz f (i + 1) = nz f i + 1 := by show nz f i + (if f i = 0 then 0 else 1) = nz f i + 1; rw [if_neg c3]
          exact ih (i + 1) (by omega) ls (by rw [e9]; exact (lv_sub hl [0, 1, 2] rfl))
  exact loop 60 0 (by decide) ls hl

set_option maxHeartbeats 4000000 in
set_option maxRecDepth 100000 in
theorem c_S_value (l : Launch) (G : xG) (A : Nat → Prop) (ws : va_W) (o wa : Nat) (f w : Nat → Nat) (hf : isS G ws o f) (hw : isW G ws wa w) : Met l y_S_valueFor (cw_S_valueFor :: TW) { frames := 3, cells := 0, slots := 0, locals := 78 } (va_Pc [.ref o, .ref wa] (x_P G A ws)) (qI G A (fun r w9 => ws = w9 ∧ r = nI (vl f w))) 0 0 A := by
  refine Met.ofW (cc := b_S_valueFor) (maxL := 4) (ret := (some .int)) (by decide) rfl ?_
  intro p e s m args below meth c s₁ B hml hv
  obtain ⟨rfl, hE, hA, hP, hD⟩ := hv
  have hx := B.exec
  have hb := B.bytes
  have hr := B.returns
  have ht : ∀ w ∈ TW, w.before _ s = true := fun w h => atoms_spec (ws := cw_S_valueFor :: TW) B.pre w (List.mem_cons_of_mem _ h)
  have hown : s.vm.findClass R_S = some m.cls := findClass_of_methodNamed B.named
  have hlocks := B.notSynchronized
  have hK := hE.1
  have hS : va_S A s.heap s.heap [] := va_S.rf
  have hl := lv_entry ([.ref o, .ref wa]) (n := 4) (Nat.le_of_ble_eq_true rfl)
  rw [lg_entry_eq]
  generalize (lg_sl ([.ref o, .ref wa]) ++ List.replicate (4 - (lg_sl ([.ref o, .ref wa])).length) Slot.unset).toArray = ls at hl ⊢
  have hl : lv_has ls 4 [(0, .ref o), (1, .ref wa)] := hl
  obtain ⟨k1, k1', ca1, f0, hf1, hf2, -, -, hf5, hf6⟩ := hf
  obtain ⟨k2, h0, hw1, hw2, hw3⟩ := hw
  refine lv_iconst (v := (nI 0)) hx hb d_S_valueFor_0 (by decide) ?_
  refine lv_istore_n (lv' := [(2, .int (nI 0)), (0, .ref o), (1, .ref wa)]) hx hb d_S_valueFor_1 rfl hl (by decide) rfl (fun ls hl => ?_)
  refine lv_iconst (v := (nI 0)) hx hb d_S_valueFor_2 (by decide) ?_
  refine lv_istore_n (lv' := [(3, .int (nI 0)), (2, .int (nI 0)), (0, .ref o), (1, .ref wa)]) hx hb d_S_valueFor_3 rfl hl (by decide) rfl (fun ls hl => ?_)
  have loop : ∀ (n i : Nat), i + n = 60 → ∀ (ls : Array Slot), lv_has ls 4 [(3, .int (nI i)), (2, .int (nI (sm f w i))), (0, .ref o), (1, .ref wa)] → W p l e (headSpec (cw_S_valueFor :: TW) { frames := 3, cells := 0, slots := 0, locals := 78 }).room s m ([.ref o, .ref wa] : List Value).toArray below meth c s.heap [] 0 0 (MQ below (qI G A (fun r w9 => ws = w9 ∧ r = nI (vl f w))) ([.ref o, .ref wa] : List Value).toArray s 0 0 A) (F0 m 4 ls []) := by
    intro n
    induction n with
    | zero =>
      intro i hi  ls  hl
      refine lv_iload_n hx hb d_S_valueFor_4 rfl (lv_at hl 0 rfl) ?_
      refine lv_bipush (v := (nI 60)) hx hb d_S_valueFor_5 (by decide) ?_
      refine x_ge hx hb i 60 rfl rfl (by omega) (by omega) (tgt := 29) d_S_valueFor_7 (by decide) (fun c1 => ?_) (fun c1 => ?_)
      · have i0 : i = 60 := by omega
        subst i0
        refine lv_iload_n hx hb d_S_valueFor_29 rfl (lv_at hl 1 rfl) ?_
        refine x_calli (va_runSN (As := [.int (nI (sm f w 60))]) (rest := []) (host := R_C) ⟨hx, hb, hml, hown, ht⟩ (c_remainder l G A ws _) ⟨va_cnB 1 ht (TW_good k_code_C_remainder) rfl rfl rfl (hE.2.2.2.2.2.2.2 _ k_mn_S_20) (ht _ k_in_C) hv_C_remainder.2 ⟨Nat.le_of_ble_eq_true rfl, Nat.le_of_ble_eq_true rfl⟩, ht _ k_st_C_remainder, trivial⟩ ⟨x_blind, x_pre hE hA hS hP hD⟩ rfl rfl hl.1 rfl (lv_room (Nat.le_of_ble_eq_true rfl)) d_S_valueFor_30 ⟨Nat.le_of_ble_eq_true rfl, Nat.le_of_ble_eq_true rfl⟩) hS (fun r4 w3 H locs q2 hP hD hS => ?_)
        obtain ⟨rfl, rfl⟩ := q2
        exact x_iret hx hb hr hlocks hS hP hD (Nat.le_of_ble_eq_true rfl) (Nat.le_of_ble_eq_true rfl) d_S_valueFor_33 (⟨rfl, by rw [rm_nat (by have := sm_le hf6 hw3 60 (by decide); omega)]; rfl⟩)
      · exact False.elim (by omega)
    | succ n ih =>
      intro i hi  ls  hl
      refine lv_iload_n hx hb d_S_valueFor_4 rfl (lv_at hl 0 rfl) ?_
      refine lv_bipush (v := (nI 60)) hx hb d_S_valueFor_5 (by decide) ?_
      refine x_ge hx hb i 60 rfl rfl (by omega) (by omega) (tgt := 29) d_S_valueFor_7 (by decide) (fun c5 => ?_) (fun c5 => ?_)
      · exact False.elim (by omega)
      · refine lv_iload_n hx hb d_S_valueFor_10 rfl (lv_at hl 1 rfl) ?_
        refine lv_aload_n hx hb d_S_valueFor_11 rfl (lv_at hl 2 rfl) ?_
        refine va_get (D := xD G) (ci := 1) (C := R_S) (T := F_S) (N := 1) hx hb ht in_S hown hK hP k1 hf1 rfl 0 (by decide) (ht _ k_fl_S_9) (fun _ h9 => h9) rfl d_S_valueFor_12 ?_
        refine lv_iload_n hx hb d_S_valueFor_15 rfl (lv_at hl 0 rfl) ?_
        refine x_iald hx hb hK hP hf2 i rfl (by omega) (by omega) d_S_valueFor_16 ?_
        refine x_top (nI (f i)) (hf5 i (by omega)) ?_
        refine lv_aload_n hx hb d_S_valueFor_17 rfl (lv_at hl 3 rfl) ?_
        refine lv_iload_n hx hb d_S_valueFor_18 rfl (lv_at hl 0 rfl) ?_
        refine x_iald hx hb hK hP hw1 i rfl (by omega) (by omega) d_S_valueFor_19 ?_
        refine x_top (nI (w i)) (hw2 i (by omega)) ?_
        refine lv_imul hx hb d_S_valueFor_20 ?_
        refine x_top (nI ((f i) * (w i))) (pk_mul _ _) ?_
        refine lv_iadd hx hb d_S_valueFor_21 ?_
        refine x_top (nI ((sm f w i) + ((f i) * (w i)))) (nI_add _ _) ?_
        refine lv_istore_n (lv' := [(2, .int (nI ((sm f w i) + ((f i) * (w i))))), (3, .int (nI i)), (0, .ref o), (1, .ref wa)]) hx hb d_S_valueFor_22 rfl hl (by decide) rfl (fun ls hl => ?_)
        refine lv_iinc (v := nI (i + 1)) (lv' := [(3, .int (nI (i + 1))), (2, .int (nI ((sm f w i) + ((f i) * (w i))))), (0, .ref o), (1, .ref wa)]) hx hb d_S_valueFor_23 hl (k := 1) rfl (n_inc _) (by decide) rfl (fun ls hl => ?_)
        refine lv_goto (tgt := 4) hx hb d_S_valueFor_26 (by decide) ?_
        exact ih (i + 1) (by omega) ls (lv_sub hl [0, 1, 2, 3] rfl)
  exact loop 60 0 (by decide) ls hl
