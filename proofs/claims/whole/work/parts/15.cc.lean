/-- an expression that was made -/
def md (n : Nat) (x : Int32) : Prop := ∃ j, j < n ∧ x = nI j
theorem md_neg {n : Nat} {x : Int32} (hn : n < 2 ^ 31) (h : x < 0) : ¬ md n x := fun ⟨j, hj, e⟩ => by rw [e] at h; exact nI_pos (by omega) h
theorem md_iff {n j : Nat} (hn : n < 2 ^ 31) (hj : j < 2 ^ 31) : md n (nI j) ↔ j < n := ⟨fun ⟨i, hi, e⟩ => by rw [nI_eq hj (by omega)] at e; omega, fun h => ⟨j, h, rfl⟩⟩
def ix (x : Int32) : Nat := x.toNatClampNeg
theorem ix_nI {j : Nat} (h : j < 2 ^ 31) : ix (nI j) = j := nI_clamp h
/-- the sum of an expression -/
def sE (E : List EE) (i : Nat) : Nat → Nat := match E[i]? with
  | some x => x.1
  | none => fun _ => 0
theorem sE_of {E : List EE} {i : Nat} {x : EE} (h : E[i]? = some x) : sE E i = x.1 := by unfold sE; rw [h]
def cp (f g : Nat → Nat) : Nat := if lastV f 59 = 0 ∨ lastV g 59 = 0 then 0 else 1
theorem cp_le (f g : Nat → Nat) : cp f g ≤ 1 := by unfold cp; split <;> omega
/-- the constraints that an expression needs -/
def nd (kd : Nat) (E : List EE) (x1 x2 x3 : Int32) : Nat :=
  if kd = 4 then cp (sE E (ix x1)) (sE E (ix x2)) else if kd = 5 then 2 else if kd = 6 then 2 else if kd = 7 then cp (sE E (ix x3)) (cmb 1 (sE E (ix x1)) 96 (sE E (ix x2))) else if kd = 9 then (ix x2 - 1) * cp (sE E (ix x1)) (sE E (ix x1)) else 0
/-- kind and what it names are in order -/
def wfd (kd n : Nat) (x1 x2 x3 : Int32) : Prop := kd ≤ 9 ∧ (2 ≤ kd → md n x1) ∧ (2 ≤ kd → kd ≤ 7 → md n x2) ∧ (kd = 7 → md n x3) ∧ (kd = 9 → ∃ b, 1 ≤ b ∧ b ≤ 5 ∧ x2 = nI b)
theorem CCs.len {G : xG} {ws : va_W} {o z u lv le lk : Nat} {V : List VV} {E : List EE} {K : List KK} {inp : Nat} {w d : Nat → Nat} {wV wC : Nat} (h : CCs G ws o z u lv le lk V E K inp w d wV wC) : 10 ≤ ws.length := by
  obtain ⟨wa, da, kV, kE, kK, gV, gE, gK, h⟩ := h
  exact h.2.2.2.2.2.2.2.2.2.2.2.2
theorem mkS_CC {G : xG} {ws w9 : va_W} {o z u lv le lk : Nat} {V : List VV} {E : List EE} {K : List KK} {inp : Nat} {w d : Nat → Nat} {wV wC r : Nat} {f : Nat → Nat} (h : CCs G ws o z u lv le lk V E K inp w d wV wC) (hm : mkS G ws f r w9) (hf : ∀ j, j < 60 → f j < 97) : CCs G w9 o z u lv le lk V E K inp w d wV wC ∧ kp ws w9 ∧ isS G w9 r f := by
  have hl := h.len
  refine ⟨?_, ?_, hm.isS ⟨by omega, by omega⟩ hf⟩
  · obtain ⟨n, rfl⟩ := hm.app
    exact h.app
  · obtain ⟨n, rfl⟩ := hm.app
    exact kp.app
theorem unit_lt (v j : Nat) : unit v j < 97 := by unfold unit; split <;> omega

set_option maxHeartbeats 4000000 in
set_option maxRecDepth 100000 in
theorem c_isMade (l : Launch) (G : xG) (A : Nat → Prop) (ws : va_W) (o z u lv le lk : Nat) (V : List VV) (E : List EE) (K : List KK) (inp : Nat) (w d : Nat → Nat) (wV wC : Nat) (hR : CCs G ws o z u lv le lk V E K inp w d wV wC) (bE : E.length ≤ 60) (x : Int32) : Met l y_C_isMade (cw_C_isMade :: TW) { frames := 2, cells := 0, slots := 0, locals := 52 } (va_Pc [.ref o, .int x] (x_P G A ws)) (qI G A (fun r w9 => ws = w9 ∧ ((r = nI 1 ∧ md E.length x) ∨ (r = nI 0 ∧ ¬ md E.length x)))) 0 0 A := by
  refine Met.ofW (cc := b_C_isMade) (maxL := 2) (ret := (some .boolean)) (by decide) rfl ?_
  intro p e s m args below meth c s₁ B hml hv
  obtain ⟨rfl, hE, hA, hP, hD⟩ := hv
  have hx := B.exec
  have hb := B.bytes
  have hr := B.returns
  have ht : ∀ w ∈ TW, w.before _ s = true := fun w h => atoms_spec (ws := cw_C_isMade :: TW) B.pre w (List.mem_cons_of_mem _ h)
  have hown : s.vm.findClass R_C = some m.cls := findClass_of_methodNamed B.named
  have hlocks := B.notSynchronized
  have hK := hE.1
  have hS : va_S A s.heap s.heap [] := va_S.rf
  have hl := lv_entry ([.ref o, .int x]) (n := 2) (Nat.le_of_ble_eq_true rfl)
  rw [lg_entry_eq]
  generalize (lg_sl ([.ref o, .int x]) ++ List.replicate (2 - (lg_sl ([.ref o, .int x])).length) Slot.unset).toArray = ls at hl ⊢
  have hl : lv_has ls 2 [(0, .ref o), (1, .int x)] := hl
  obtain ⟨wa, da, kV, kE, kK, gV, gE, gK, hX⟩ := id hR
  obtain ⟨x1, x2, x3, x4, x5, x6, x7, x8, x9, x10, x11, x12, x13⟩ := id hX
  obtain ⟨mo_v, ae_v, li_v, -⟩ := id x4
  obtain ⟨mo_e, ae_e, li_e, -⟩ := id x5
  obtain ⟨mo_k, ae_k, li_k, -⟩ := id x6
  refine lv_iload_n hx hb d_C_isMade_0 rfl (lv_at hl 1 rfl) ?_
  refine lv_if_lt (tgt := 19) hx hb d_C_isMade_1 (by decide) (fun c1 => ?_) (fun c1 => ?_)
  · refine lv_iconst (v := (nI 0)) hx hb d_C_isMade_19 (by decide) ?_
    exact x_zret hx hb hr hlocks hS hP hD (Nat.le_of_ble_eq_true rfl) (Nat.le_of_ble_eq_true rfl) d_C_isMade_20 rfl (⟨rfl, Or.inr ⟨rfl, md_neg (by omega) c1⟩⟩)
  obtain ⟨j, hj, rfl⟩ := nI_of c1
  refine lv_iload_n hx hb d_C_isMade_4 rfl (lv_at hl 1 rfl) ?_
  refine lv_aload_n hx hb d_C_isMade_5 rfl (lv_at hl 0 rfl) ?_
  refine va_get (D := xD G) (ci := 0) (C := R_C) (T := F_C) (N := 10) hx hb ht in_C hown hK hP 0 x1 rfl 3 (by decide) (ht _ k_fl_C_30) (fun _ h9 => h9) rfl d_C_isMade_6 ?_
  refine x_calli (va_runV (As := []) (rest := [.int (nI j)]) ⟨hx, hb, hml, hown, ht⟩ (c_A_size l G A ws 6 kE le E.length gE x5) (cwV 0 ht (TW_V k_ml_C_78 k_im_A_size k_se_A_size k_in_A k_code_A_size) rfl rfl rfl hv_A_size ⟨Nat.le_of_ble_eq_true rfl, Nat.le_of_ble_eq_true rfl⟩) ⟨x_blind, va_recv hK hP rfl li_e, x_pre hE hA hS hP hD⟩ rfl rfl hl.1 rfl (lv_room (Nat.le_of_ble_eq_true rfl)) d_C_isMade_9 ⟨Nat.le_of_ble_eq_true rfl, Nat.le_of_ble_eq_true rfl⟩) hS (fun r3 w2 H locs q1 hP hD hS => ?_)
  obtain ⟨rfl, rfl⟩ := q1
  refine x_ge hx hb j E.length rfl rfl (by omega) (by omega) (tgt := 19) d_C_isMade_12 (by decide) (fun c4 => ?_) (fun c4 => ?_)
  · refine lv_iconst (v := (nI 0)) hx hb d_C_isMade_19 (by decide) ?_
    exact x_zret hx hb hr hlocks hS hP hD (Nat.le_of_ble_eq_true rfl) (Nat.le_of_ble_eq_true rfl) d_C_isMade_20 rfl (⟨rfl, Or.inr ⟨rfl, fun q => by rw [md_iff (by omega) hj] at q; omega⟩⟩)
  · refine lv_iconst (v := (nI 1)) hx hb d_C_isMade_15 (by decide) ?_
    refine lv_goto (tgt := 20) hx hb d_C_isMade_16 (by decide) ?_
    exact x_zret hx hb hr hlocks hS hP hD (Nat.le_of_ble_eq_true rfl) (Nat.le_of_ble_eq_true rfl) d_C_isMade_20 rfl (⟨rfl, Or.inl ⟨rfl, (md_iff (by omega) hj).mpr c4⟩⟩)

set_option maxHeartbeats 4000000 in
set_option maxRecDepth 100000 in
theorem c_sumOf (l : Launch) (G : xG) (A : Nat → Prop) (ws : va_W) (o z u lv le lk : Nat) (V : List VV) (E : List EE) (K : List KK) (inp : Nat) (w d : Nat → Nat) (wV wC : Nat) (hR : CCs G ws o z u lv le lk V E K inp w d wV wC) (bE : E.length ≤ 60) (j : Nat) (hj : j < E.length) : Met l y_C_sumOf (cw_C_sumOf :: TW) { frames := 4, cells := 0, slots := 0, locals := 104 } (va_Pc [.ref o, .int (nI j)] (x_P G A ws)) (qR G A (fun r w9 => ws = w9 ∧ isS G ws r (sE E j))) 0 0 A := by
  refine Met.ofW (cc := b_C_sumOf) (maxL := 2) (ret := (some (.object "ConstraintCompiler$Sum"))) (by decide) rfl ?_
  intro p e s m args below meth c s₁ B hml hv
  obtain ⟨rfl, hE, hA, hP, hD⟩ := hv
  have hx := B.exec
  have hb := B.bytes
  have hr := B.returns
  have ht : ∀ w ∈ TW, w.before _ s = true := fun w h => atoms_spec (ws := cw_C_sumOf :: TW) B.pre w (List.mem_cons_of_mem _ h)
  have hown : s.vm.findClass R_C = some m.cls := findClass_of_methodNamed B.named
  have hlocks := B.notSynchronized
  have hK := hE.1
  have hS : va_S A s.heap s.heap [] := va_S.rf
  have hl := lv_entry ([.ref o, .int (nI j)]) (n := 2) (Nat.le_of_ble_eq_true rfl)
  rw [lg_entry_eq]
  generalize (lg_sl ([.ref o, .int (nI j)]) ++ List.replicate (2 - (lg_sl ([.ref o, .int (nI j)])).length) Slot.unset).toArray = ls at hl ⊢
  have hl : lv_has ls 2 [(0, .ref o), (1, .int (nI j))] := hl
  obtain ⟨wa, da, kV, kE, kK, gV, gE, gK, hX⟩ := id hR
  obtain ⟨x1, x2, x3, x4, x5, x6, x7, x8, x9, x10, x11, x12, x13⟩ := id hX
  obtain ⟨mo_v, ae_v, li_v, -⟩ := id x4
  obtain ⟨mo_e, ae_e, li_e, -⟩ := id x5
  obtain ⟨mo_k, ae_k, li_k, -⟩ := id x6
  obtain ⟨y, hy⟩ := V_get hj
  refine lv_aload_n hx hb d_C_sumOf_0 rfl (lv_at hl 0 rfl) ?_
  refine va_get (D := xD G) (ci := 0) (C := R_C) (T := F_C) (N := 10) hx hb ht in_C hown hK hP 0 x1 rfl 3 (by decide) (ht _ k_fl_C_30) (fun _ h9 => h9) rfl d_C_sumOf_1 ?_
  refine lv_iload_n hx hb d_C_sumOf_4 rfl (lv_at hl 1 rfl) ?_
  refine x_callr (va_runV (As := [.int (nI j)]) (rest := []) ⟨hx, hb, hml, hown, ht⟩ (c_A_get l G A ws 6 kE le E.length j gE x5 hj (by omega)) (cwV 1 ht (TW_V k_ml_C_104 k_im_A_get k_se_A_get k_in_A k_code_A_get) rfl rfl rfl hv_A_get ⟨Nat.le_of_ble_eq_true rfl, Nat.le_of_ble_eq_true rfl⟩) ⟨x_blind, va_recv hK hP rfl li_e, x_pre hE hA hS hP hD⟩ rfl rfl hl.1 rfl (lv_room (Nat.le_of_ble_eq_true rfl)) d_C_sumOf_5 ⟨Nat.le_of_ble_eq_true rfl, Nat.le_of_ble_eq_true rfl⟩) hS (fun r3 w2 H locs q1 hP hD hS => ?_)
  obtain ⟨rfl, rfl⟩ := q1
  obtain ⟨ke, sa, e1, e2⟩ := x8 j y hy
  refine va_castY hx hb hown (ht _ k_cl_C_69) (hE.2.2.2.2.2.2.2 _ k_ca_E_E) (va_recv hK hP rfl e1) d_C_sumOf_8 ?_
  refine va_get (D := xD G) (ci := 3) (C := R_E) (T := F_E) (N := 2) hx hb ht in_E hown hK hP ke e1 rfl 0 (by decide) (ht _ k_fl_C_192) (fun _ h9 => h9) rfl d_C_sumOf_11 ?_
  exact x_aret hx hb hr (Or.inl ⟨_, rfl⟩) hlocks hS hP hD (Nat.le_of_ble_eq_true rfl) (Nat.le_of_ble_eq_true rfl) d_C_sumOf_14 (⟨rfl, by rw [sE_of hy]; exact e2⟩)

set_option maxHeartbeats 4000000 in
set_option maxRecDepth 100000 in
theorem c_diff (l : Launch) (G : xG) (A : Nat → Prop) (ws : va_W) (o z u lv le lk : Nat) (V : List VV) (E : List EE) (K : List KK) (inp : Nat) (w d : Nat → Nat) (wV wC : Nat) (hR : CCs G ws o z u lv le lk V E K inp w d wV wC) (bE : E.length ≤ 60) (a b : Nat) (ha : a < E.length) (hb9 : b < E.length) : Met l y_C_difference (cw_C_difference :: TW) { frames := 5, cells := 2, slots := 61, locals := 130 } (va_Pc [.ref o, .int (nI a), .int (nI b)] (x_P G A ws)) (qR G A (mkS G ws (cmb 1 (sE E a) 96 (sE E b)))) 2 61 A := by
  refine Met.ofW (cc := b_C_difference) (maxL := 3) (ret := (some (.object "ConstraintCompiler$Sum"))) (by decide) rfl ?_
  intro p e s m args below meth c s₁ B hml hv
  obtain ⟨rfl, hE, hA, hP, hD⟩ := hv
  have hx := B.exec
  have hb := B.bytes
  have hr := B.returns
  have ht : ∀ w ∈ TW, w.before _ s = true := fun w h => atoms_spec (ws := cw_C_difference :: TW) B.pre w (List.mem_cons_of_mem _ h)
  have hown : s.vm.findClass R_C = some m.cls := findClass_of_methodNamed B.named
  have hlocks := B.notSynchronized
  have hK := hE.1
  have hS : va_S A s.heap s.heap [] := va_S.rf
  have hl := lv_entry ([.ref o, .int (nI a), .int (nI b)]) (n := 3) (Nat.le_of_ble_eq_true rfl)
  rw [lg_entry_eq]
  generalize (lg_sl ([.ref o, .int (nI a), .int (nI b)]) ++ List.replicate (3 - (lg_sl ([.ref o, .int (nI a), .int (nI b)])).length) Slot.unset).toArray = ls at hl ⊢
  have hl : lv_has ls 3 [(0, .ref o), (1, .int (nI a)), (2, .int (nI b))] := hl
  obtain ⟨wa, da, kV, kE, kK, gV, gE, gK, hX⟩ := id hR
  obtain ⟨x1, x2, x3, x4, x5, x6, x7, x8, x9, x10, x11, x12, x13⟩ := id hX
  obtain ⟨mo_v, ae_v, li_v, -⟩ := id x4
  obtain ⟨mo_e, ae_e, li_e, -⟩ := id x5
  obtain ⟨mo_k, ae_k, li_k, -⟩ := id x6
  refine lv_aload_n hx hb d_C_difference_0 rfl (lv_at hl 0 rfl) ?_
  refine lv_iload_n hx hb d_C_difference_1 rfl (lv_at hl 1 rfl) ?_
  refine x_callr (va_runV (As := [.int (nI a)]) (rest := []) ⟨hx, hb, hml, hown, ht⟩ (c_sumOf l G A ws o z u lv le lk V E K inp w d wV wC hR bE a ha) (cwV 1 ht (TW_V k_ml_C_94 k_im_C_sumOf k_se_C_sumOf k_in_C k_code_C_sumOf) rfl rfl rfl hv_C_sumOf ⟨Nat.le_of_ble_eq_true rfl, Nat.le_of_ble_eq_true rfl⟩) ⟨x_blind, va_recv hK hP rfl x1, x_pre hE hA hS hP hD⟩ rfl rfl hl.1 rfl (lv_room (Nat.le_of_ble_eq_true rfl)) d_C_difference_2 ⟨Nat.le_of_ble_eq_true rfl, Nat.le_of_ble_eq_true rfl⟩) hS (fun r3 w2 H locs q1 hP hD hS => ?_)
  obtain ⟨rfl, i1⟩ := q1
  obtain ⟨kA, jA, cA, fA, pA, qA, nA, oA, eA, bA⟩ := id i1
  refine lv_aload_n hx hb d_C_difference_5 rfl (lv_at hl 0 rfl) ?_
  refine lv_iload_n hx hb d_C_difference_6 rfl (lv_at hl 2 rfl) ?_
  refine x_callr (va_runV (As := [.int (nI b)]) (rest := [.ref r3]) ⟨hx, hb, hml, hown, ht⟩ (c_sumOf l G A ws o z u lv le lk V E K inp w d wV wC hR bE b hb9) (cwV 1 ht (TW_V k_ml_C_94 k_im_C_sumOf k_se_C_sumOf k_in_C k_code_C_sumOf) rfl rfl rfl hv_C_sumOf ⟨Nat.le_of_ble_eq_true rfl, Nat.le_of_ble_eq_true rfl⟩) ⟨x_blind, va_recv hK hP rfl x1, x_pre hE hA hS hP hD⟩ rfl rfl hl.1 rfl (lv_room (Nat.le_of_ble_eq_true rfl)) d_C_difference_7 ⟨Nat.le_of_ble_eq_true rfl, Nat.le_of_ble_eq_true rfl⟩) hS (fun r6 w5 H locs q4 hP hD hS => ?_)
  obtain ⟨rfl, i2⟩ := q4
  refine x_callr (va_runV (As := [.ref r6]) (rest := []) ⟨hx, hb, hml, hown, ht⟩ (c_S_minus l G A ws r3 r6 _ _ i1 i2) (cwV 1 ht (TW_V k_ml_C_97 k_im_S_minus k_se_S_minus k_in_S k_code_S_minus) rfl rfl rfl hv_S_minus ⟨Nat.le_of_ble_eq_true rfl, Nat.le_of_ble_eq_true rfl⟩) ⟨x_blind, va_recv hK hP rfl pA, x_pre hE hA hS hP hD⟩ rfl rfl hl.1 rfl (lv_room (Nat.le_of_ble_eq_true rfl)) d_C_difference_10 ⟨Nat.le_of_ble_eq_true rfl, Nat.le_of_ble_eq_true rfl⟩) hS (fun r9 w8 H locs q7 hP hD hS => ?_)
  refine W.widen (k := 2) (n := 61) (Nat.le_of_ble_eq_true rfl) (Nat.le_of_ble_eq_true rfl) ?_
  exact x_aret hx hb hr (Or.inl ⟨_, rfl⟩) hlocks hS hP hD (Nat.le_of_ble_eq_true rfl) (Nat.le_of_ble_eq_true rfl) d_C_difference_13 (q7)

set_option maxHeartbeats 4000000 in
set_option maxRecDepth 100000 in
theorem c_cop (l : Launch) (G : xG) (A : Nat → Prop) (ws : va_W) (a b : Nat) (f g : Nat → Nat) (hf : isS G ws a f) (hg : isS G ws b g) : Met l y_C_constraintsOfProduct (cw_C_constraintsOfProduct :: TW) { frames := 3, cells := 0, slots := 0, locals := 78 } (va_Pc [.ref a, .ref b] (x_P G A ws)) (qI G A (fun r w9 => ws = w9 ∧ r = nI (cp f g))) 0 0 A := by
  refine Met.ofW (cc := b_C_constraintsOfProduct) (maxL := 2) (ret := (some .int)) (by decide) rfl ?_
  intro p e s m args below meth c s₁ B hml hv
  obtain ⟨rfl, hE, hA, hP, hD⟩ := hv
  have hx := B.exec
  have hb := B.bytes
  have hr := B.returns
  have ht : ∀ w ∈ TW, w.before _ s = true := fun w h => atoms_spec (ws := cw_C_constraintsOfProduct :: TW) B.pre w (List.mem_cons_of_mem _ h)
  have hown : s.vm.findClass R_C = some m.cls := findClass_of_methodNamed B.named
  have hlocks := B.notSynchronized
  have hK := hE.1
  have hS : va_S A s.heap s.heap [] := va_S.rf
  have hl := lv_entry ([.ref a, .ref b]) (n := 2) (Nat.le_of_ble_eq_true rfl)
  rw [lg_entry_eq]
  generalize (lg_sl ([.ref a, .ref b]) ++ List.replicate (2 - (lg_sl ([.ref a, .ref b])).length) Slot.unset).toArray = ls at hl ⊢
  have hl : lv_has ls 2 [(0, .ref a), (1, .ref b)] := hl
  obtain ⟨kA, jA, cA, fA, pA, qA, nA, oA, eA, bA⟩ := id hf
  obtain ⟨kB, jB, cB, fB, pB, qB, nB, oB, eB, bB⟩ := id hg
  refine lv_aload_n hx hb d_C_constraintsOfProduct_0 rfl (lv_at hl 0 rfl) ?_
  refine x_calli (va_runV (As := []) (rest := []) ⟨hx, hb, hml, hown, ht⟩ (c_S_const l G A ws a f hf) (cwV 0 ht (TW_V k_ml_C_189 k_im_S_isConstant k_se_S_isConstant k_in_S k_code_S_isConstant) rfl rfl rfl hv_S_isConstant ⟨Nat.le_of_ble_eq_true rfl, Nat.le_of_ble_eq_true rfl⟩) ⟨x_blind, va_recv hK hP rfl pA, x_pre hE hA hS hP hD⟩ rfl rfl hl.1 rfl (lv_room (Nat.le_of_ble_eq_true rfl)) d_C_constraintsOfProduct_1 ⟨Nat.le_of_ble_eq_true rfl, Nat.le_of_ble_eq_true rfl⟩) hS (fun r3 w2 H locs q1 hP hD hS => ?_)
  obtain ⟨rfl, ⟨rfl, h1⟩ | ⟨rfl, h1⟩⟩ := q1
  · refine x_if_ne hx hb 1 rfl (by omega) (tgt := 14) d_C_constraintsOfProduct_4 (by decide) (fun c4 => ?_) (fun c4 => ?_)
    · refine lv_iconst (v := (nI 0)) hx hb d_C_constraintsOfProduct_14 (by decide) ?_
      refine lv_goto (tgt := 19) hx hb d_C_constraintsOfProduct_15 (by decide) ?_
      exact x_iret hx hb hr hlocks hS hP hD (Nat.le_of_ble_eq_true rfl) (Nat.le_of_ble_eq_true rfl) d_C_constraintsOfProduct_19 (⟨rfl, by unfold cp; rw [if_pos (Or.inl h1)]⟩)
    · exact False.elim (by omega)
  · refine x_if_ne hx hb 0 rfl (by omega) (tgt := 14) d_C_constraintsOfProduct_4 (by decide) (fun c5 => ?_) (fun c5 => ?_)
    · exact False.elim (by omega)
    · refine lv_aload_n hx hb d_C_constraintsOfProduct_7 rfl (lv_at hl 1 rfl) ?_
      refine x_calli (va_runV (As := []) (rest := []) ⟨hx, hb, hml, hown, ht⟩ (c_S_const l G A ws b g hg) (cwV 0 ht (TW_V k_ml_C_189 k_im_S_isConstant k_se_S_isConstant k_in_S k_code_S_isConstant) rfl rfl rfl hv_S_isConstant ⟨Nat.le_of_ble_eq_true rfl, Nat.le_of_ble_eq_true rfl⟩) ⟨x_blind, va_recv hK hP rfl pB, x_pre hE hA hS hP hD⟩ rfl rfl hl.1 rfl (lv_room (Nat.le_of_ble_eq_true rfl)) d_C_constraintsOfProduct_8 ⟨Nat.le_of_ble_eq_true rfl, Nat.le_of_ble_eq_true rfl⟩) hS (fun r8 w7 H locs q6 hP hD hS => ?_)
      obtain ⟨rfl, ⟨rfl, h2⟩ | ⟨rfl, h2⟩⟩ := q6
      · refine x_if_eq hx hb 1 rfl (by omega) (tgt := 18) d_C_constraintsOfProduct_11 (by decide) (fun c9 => ?_) (fun c9 => ?_)
        · exact False.elim (by omega)
        · refine lv_iconst (v := (nI 0)) hx hb d_C_constraintsOfProduct_14 (by decide) ?_
          refine lv_goto (tgt := 19) hx hb d_C_constraintsOfProduct_15 (by decide) ?_
          exact x_iret hx hb hr hlocks hS hP hD (Nat.le_of_ble_eq_true rfl) (Nat.le_of_ble_eq_true rfl) d_C_constraintsOfProduct_19 (⟨rfl, by unfold cp; rw [if_pos (Or.inr h2)]⟩)
      · refine x_if_eq hx hb 0 rfl (by omega) (tgt := 18) d_C_constraintsOfProduct_11 (by decide) (fun c10 => ?_) (fun c10 => ?_)
        · refine lv_iconst (v := (nI 1)) hx hb d_C_constraintsOfProduct_18 (by decide) ?_
          exact x_iret hx hb hr hlocks hS hP hD (Nat.le_of_ble_eq_true rfl) (Nat.le_of_ble_eq_true rfl) d_C_constraintsOfProduct_19 (⟨rfl, by unfold cp; rw [if_neg (by omega)]⟩)
        · exact False.elim (by omega)
