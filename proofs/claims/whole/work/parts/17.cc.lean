/-! what the making of an expression does to variables and constraints -/
abbrev VK : Type := List VV × List KK
def zr : Nat → Nat := fun _ => 0
def prodS (s : VK) (f g : Nat → Nat) : VK × (Nat → Nat) :=
  if lastV f 59 = 0 then (s, cmb (f 0) g 0 g) else if lastV g 59 = 0 then (s, cmb (g 0) f 0 f) else ((s.1 ++ [(2, f, g, 0)], s.2 ++ [(f, g, unit s.1.length)]), unit s.1.length)
def powS : Nat → VK → (Nat → Nat) → (Nat → Nat) → VK × (Nat → Nat)
  | 0, s, cur, _ => (s, cur)
  | n + 1, s, cur, base => powS n (prodS s cur base).1 (prodS s cur base).2 base
def shareS (s : VK) (f g : Nat → Nat) : VK × (Nat → Nat) :=
  ((s.1 ++ [(3, g, zr, 0)] ++ [(2, f, unit s.1.length, 0)], s.2 ++ [(g, unit s.1.length, unit 0)] ++ [(f, unit s.1.length, unit (s.1 ++ [(3, g, zr, 0)]).length)]), unit (s.1 ++ [(3, g, zr, 0)]).length)
def sameS (s : VK) (d : Nat → Nat) : VK × (Nat → Nat) :=
  ((s.1 ++ [(4, d, zr, 0)] ++ [(5, d, zr, 0)], s.2 ++ [(d, unit s.1.length, cmb 1 (unit 0) 96 (unit (s.1 ++ [(4, d, zr, 0)]).length))] ++ [(d, unit (s.1 ++ [(4, d, zr, 0)]).length, zr)]), unit (s.1 ++ [(4, d, zr, 0)]).length)
theorem prodS_len (s : VK) (f g : Nat → Nat) : (prodS s f g).1.1.length = s.1.length + cp f g ∧ (prodS s f g).1.2.length = s.2.length + cp f g := by
  unfold prodS cp
  by_cases h1 : lastV f 59 = 0
  · simp [h1]
  · by_cases h2 : lastV g 59 = 0
    · simp [h1, h2]
    · simp [h1, h2]
theorem prodS_lt (s : VK) (f g : Nat → Nat) : ∀ j, j < 60 → (prodS s f g).2 j < 97 := by
  intro j _
  unfold prodS
  split
  · exact cmb_lt j
  · split
    · exact cmb_lt j
    · exact unit_lt _ j
theorem cp_right (cur f : Nat → Nat) : cp cur f ≤ cp f f := by
  unfold cp
  by_cases h : lastV f 59 = 0
  · simp [h]
  · simp only [h, or_false, or_self]; split <;> simp
def mkSum (kd : Nat) (E : List EE) (s : VK) (x1 x2 x3 : Int32) : VK × (Nat → Nat) :=
  if kd = 2 then (s, cmb 1 (sE E (ix x1)) 1 (sE E (ix x2))) else if kd = 3 then (s, cmb 1 (sE E (ix x1)) 96 (sE E (ix x2))) else if kd = 4 then prodS s (sE E (ix x1)) (sE E (ix x2))
  else if kd = 5 then shareS s (sE E (ix x1)) (sE E (ix x2)) else if kd = 6 then sameS s (cmb 1 (sE E (ix x1)) 96 (sE E (ix x2)))
  else if kd = 7 then ((prodS s (sE E (ix x3)) (cmb 1 (sE E (ix x1)) 96 (sE E (ix x2)))).1, cmb 1 (prodS s (sE E (ix x3)) (cmb 1 (sE E (ix x1)) 96 (sE E (ix x2)))).2 1 (sE E (ix x2)))
  else if kd = 8 then (s, cmb 1 (unit 0) 96 (sE E (ix x1))) else if kd = 9 then powS (ix x2 - 1) s (sE E (ix x1)) (sE E (ix x1)) else (s, cmb (rm x1) (unit 0) 0 (unit 0))
theorem CCs.o {G : xG} {ws : va_W} {o z u lv le lk : Nat} {V : List VV} {E : List EE} {K : List KK} {inp : Nat} {w d : Nat → Nat} {wV wC : Nat} (h : CCs G ws o z u lv le lk V E K inp w d wV wC) : ∃ wa da : Nat, ws[0]? = some (o, .inr (0, [.ref z, .ref u, .ref lv, .ref le, .ref lk, .int (nI inp), .ref wa, .ref da, .int (nI wV), .int (nI wC)])) := by
  obtain ⟨wa, da, kV, kE, kK, gV, gE, gK, h⟩ := h
  exact ⟨wa, da, h.1⟩
theorem CCs.z {G : xG} {ws : va_W} {o z u lv le lk : Nat} {V : List VV} {E : List EE} {K : List KK} {inp : Nat} {w d : Nat → Nat} {wV wC : Nat} (h : CCs G ws o z u lv le lk V E K inp w d wV wC) : isS G ws z zr ∧ isS G ws u (unit 0) := by
  obtain ⟨wa, da, kV, kE, kK, gV, gE, gK, h⟩ := h
  exact ⟨h.2.1, h.2.2.1⟩

set_option maxHeartbeats 4000000 in
set_option maxRecDepth 100000 in
theorem c_mprod (l : Launch) (G : xG) (A : Nat → Prop) (ws : va_W) (o z u lv le lk : Nat) (V : List VV) (E : List EE) (K : List KK) (inp : Nat) (w d : Nat → Nat) (wV wC : Nat) (hR : CCs G ws o z u lv le lk V E K inp w d wV wC) (la ra : Nat) (f g : Nat → Nat) (hf : isS G ws la f) (hg : isS G ws ra g) (bV : V.length + cp f g ≤ 60) (bK : K.length + cp f g ≤ 80) : Met l y_C_makeProduct (cw_C_makeProduct :: TW) { frames := 10, cells := 6, slots := 368, locals := 260 } (va_Pc [.ref o, .ref la, .ref ra] (x_P G A ws)) (qR G A (fun r w9 => isS G w9 r (prodS (V, K) f g).2 ∧ CCs G w9 o z u lv le lk (prodS (V, K) f g).1.1 E (prodS (V, K) f g).1.2 inp w d wV wC ∧ kp ws w9)) 6 368 A := by
  refine Met.ofW (cc := b_C_makeProduct) (maxL := 3) (ret := (some (.object "ConstraintCompiler$Sum"))) (by decide) rfl ?_
  intro p e s m args below meth c s₁ B hml hv
  obtain ⟨rfl, hE, hA, hP, hD⟩ := hv
  have hx := B.exec
  have hb := B.bytes
  have hr := B.returns
  have ht : ∀ w ∈ TW, w.before _ s = true := fun w h => atoms_spec (ws := cw_C_makeProduct :: TW) B.pre w (List.mem_cons_of_mem _ h)
  have hown : s.vm.findClass R_C = some m.cls := findClass_of_methodNamed B.named
  have hlocks := B.notSynchronized
  have hK := hE.1
  have hS : va_S A s.heap s.heap [] := va_S.rf
  have hl := lv_entry ([.ref o, .ref la, .ref ra]) (n := 3) (Nat.le_of_ble_eq_true rfl)
  rw [lg_entry_eq]
  generalize (lg_sl ([.ref o, .ref la, .ref ra]) ++ List.replicate (3 - (lg_sl ([.ref o, .ref la, .ref ra])).length) Slot.unset).toArray = ls at hl ⊢
  have hl : lv_has ls 3 [(0, .ref o), (1, .ref la), (2, .ref ra)] := hl
  obtain ⟨wa0, da0, ho0⟩ := CCs.o hR
  obtain ⟨kA, jA, cA, fA, pA, qA, nA, oA, eA, bA⟩ := id hf
  obtain ⟨kB, jB, cB, fB, pB, qB, nB, oB, eB, bB⟩ := id hg
  refine lv_aload_n hx hb d_C_makeProduct_0 rfl (lv_at hl 1 rfl) ?_
  refine x_calli (va_runV (As := []) (rest := []) ⟨hx, hb, hml, hown, ht⟩ (c_S_const l G A ws la f hf) (cwV 0 ht (TW_V k_ml_C_189 k_im_S_isConstant k_se_S_isConstant k_in_S k_code_S_isConstant) rfl rfl rfl hv_S_isConstant ⟨Nat.le_of_ble_eq_true rfl, Nat.le_of_ble_eq_true rfl⟩) ⟨x_blind, va_recv hK hP rfl pA, x_pre hE hA hS hP hD⟩ rfl rfl hl.1 rfl (lv_room (Nat.le_of_ble_eq_true rfl)) d_C_makeProduct_1 ⟨Nat.le_of_ble_eq_true rfl, Nat.le_of_ble_eq_true rfl⟩) hS (fun r3 w2 H locs q1 hP hD hS => ?_)
  obtain ⟨rfl, ⟨rfl, h1⟩ | ⟨rfl, h1⟩⟩ := q1
  · refine x_if_eq hx hb 1 rfl (by omega) (tgt := 18) d_C_makeProduct_4 (by decide) (fun c4 => ?_) (fun c4 => ?_)
    · exact False.elim (by omega)
    · refine lv_aload_n hx hb d_C_makeProduct_7 rfl (lv_at hl 2 rfl) ?_
      refine lv_aload_n hx hb d_C_makeProduct_8 rfl (lv_at hl 1 rfl) ?_
      refine va_get (D := xD G) (ci := 1) (C := R_S) (T := F_S) (N := 1) hx hb ht in_S hown hK hP kA pA rfl 0 (by decide) (ht _ k_fl_C_163) (fun _ h9 => h9) rfl d_C_makeProduct_9 ?_
      refine lv_iconst (v := (nI 0)) hx hb d_C_makeProduct_12 (by decide) ?_
      refine x_iald hx hb hK hP qA 0 rfl (by omega) (by omega) d_C_makeProduct_13 ?_
      refine x_top (nI (f 0)) (eA 0 (by decide)) ?_
      refine x_callr (va_runV (As := [.int (nI (f 0))]) (rest := []) ⟨hx, hb, hml, hown, ht⟩ (c_S_scaled l G A ws ra (f 0) g hg (bA 0 (by decide))) (cwV 1 ht (TW_V k_ml_C_216 k_im_S_scaledBy k_se_S_scaledBy k_in_S k_code_S_scaledBy) rfl rfl rfl hv_S_scaledBy ⟨Nat.le_of_ble_eq_true rfl, Nat.le_of_ble_eq_true rfl⟩) ⟨x_blind, va_recv hK hP rfl pB, x_pre hE hA hS hP hD⟩ rfl rfl hl.1 rfl (lv_room (Nat.le_of_ble_eq_true rfl)) d_C_makeProduct_14 ⟨Nat.le_of_ble_eq_true rfl, Nat.le_of_ble_eq_true rfl⟩) hS (fun r7 w6 H locs q5 hP hD hS => ?_)
      refine W.widen (k := 2) (n := 61) (Nat.le_of_ble_eq_true rfl) (Nat.le_of_ble_eq_true rfl) ?_
      have e9 : prodS (V, K) f g = ((V, K), cmb (f 0) g 0 g) := by unfold prodS; rw [if_pos h1]
      obtain ⟨hR1, kk1, iS⟩ := mkS_CC hR q5 (fun j _ => cmb_lt j)
      exact x_aret hx hb hr (Or.inl ⟨_, rfl⟩) hlocks hS hP hD (Nat.le_of_ble_eq_true rfl) (Nat.le_of_ble_eq_true rfl) d_C_makeProduct_17 (by rw [e9]; exact ⟨iS, hR1, kk1⟩)
  · refine x_if_eq hx hb 0 rfl (by omega) (tgt := 18) d_C_makeProduct_4 (by decide) (fun c8 => ?_) (fun c8 => ?_)
    · refine lv_aload_n hx hb d_C_makeProduct_18 rfl (lv_at hl 2 rfl) ?_
      refine x_calli (va_runV (As := []) (rest := []) ⟨hx, hb, hml, hown, ht⟩ (c_S_const l G A ws ra g hg) (cwV 0 ht (TW_V k_ml_C_189 k_im_S_isConstant k_se_S_isConstant k_in_S k_code_S_isConstant) rfl rfl rfl hv_S_isConstant ⟨Nat.le_of_ble_eq_true rfl, Nat.le_of_ble_eq_true rfl⟩) ⟨x_blind, va_recv hK hP rfl pB, x_pre hE hA hS hP hD⟩ rfl rfl hl.1 rfl (lv_room (Nat.le_of_ble_eq_true rfl)) d_C_makeProduct_19 ⟨Nat.le_of_ble_eq_true rfl, Nat.le_of_ble_eq_true rfl⟩) hS (fun r11 w10 H locs q9 hP hD hS => ?_)
      obtain ⟨rfl, ⟨rfl, h2⟩ | ⟨rfl, h2⟩⟩ := q9
      · refine x_if_eq hx hb 1 rfl (by omega) (tgt := 36) d_C_makeProduct_22 (by decide) (fun c12 => ?_) (fun c12 => ?_)
        · exact False.elim (by omega)
        · refine lv_aload_n hx hb d_C_makeProduct_25 rfl (lv_at hl 1 rfl) ?_
          refine lv_aload_n hx hb d_C_makeProduct_26 rfl (lv_at hl 2 rfl) ?_
          refine va_get (D := xD G) (ci := 1) (C := R_S) (T := F_S) (N := 1) hx hb ht in_S hown hK hP kB pB rfl 0 (by decide) (ht _ k_fl_C_163) (fun _ h9 => h9) rfl d_C_makeProduct_27 ?_
          refine lv_iconst (v := (nI 0)) hx hb d_C_makeProduct_30 (by decide) ?_
          refine x_iald hx hb hK hP qB 0 rfl (by omega) (by omega) d_C_makeProduct_31 ?_
          refine x_top (nI (g 0)) (eB 0 (by decide)) ?_
          refine x_callr (va_runV (As := [.int (nI (g 0))]) (rest := []) ⟨hx, hb, hml, hown, ht⟩ (c_S_scaled l G A ws la (g 0) f hf (bB 0 (by decide))) (cwV 1 ht (TW_V k_ml_C_216 k_im_S_scaledBy k_se_S_scaledBy k_in_S k_code_S_scaledBy) rfl rfl rfl hv_S_scaledBy ⟨Nat.le_of_ble_eq_true rfl, Nat.le_of_ble_eq_true rfl⟩) ⟨x_blind, va_recv hK hP rfl pA, x_pre hE hA hS hP hD⟩ rfl rfl hl.1 rfl (lv_room (Nat.le_of_ble_eq_true rfl)) d_C_makeProduct_32 ⟨Nat.le_of_ble_eq_true rfl, Nat.le_of_ble_eq_true rfl⟩) hS (fun r15 w14 H locs q13 hP hD hS => ?_)
          refine W.widen (k := 2) (n := 61) (Nat.le_of_ble_eq_true rfl) (Nat.le_of_ble_eq_true rfl) ?_
          have e9 : prodS (V, K) f g = ((V, K), cmb (g 0) f 0 f) := by unfold prodS; rw [if_neg h1, if_pos h2]
          obtain ⟨hR1, kk1, iS⟩ := mkS_CC hR q13 (fun j _ => cmb_lt j)
          exact x_aret hx hb hr (Or.inl ⟨_, rfl⟩) hlocks hS hP hD (Nat.le_of_ble_eq_true rfl) (Nat.le_of_ble_eq_true rfl) d_C_makeProduct_35 (by rw [e9]; exact ⟨iS, hR1, kk1⟩)
      · refine x_if_eq hx hb 0 rfl (by omega) (tgt := 36) d_C_makeProduct_22 (by decide) (fun c16 => ?_) (fun c16 => ?_)
        · have c9 : cp f g = 1 := by unfold cp; rw [if_neg (by omega)]
          refine lv_aload_n hx hb d_C_makeProduct_36 rfl (lv_at hl 0 rfl) ?_
          refine lv_aload_n hx hb d_C_makeProduct_37 rfl (lv_at hl 1 rfl) ?_
          refine lv_aload_n hx hb d_C_makeProduct_38 rfl (lv_at hl 2 rfl) ?_
          refine x_callr (va_runV (As := [.ref la, .ref ra]) (rest := []) ⟨hx, hb, hml, hown, ht⟩ (c_mcp l G A ws o z u lv le lk V E K inp w d wV wC hR (by omega) (by omega) la ra f g hf hg) (cwV 2 ht (TW_V k_ml_C_219 k_im_C_makeConstrainedProduct k_se_C_makeConstrainedProduct k_in_C k_code_C_makeConstrainedProduct) rfl rfl rfl hv_C_makeConstrainedProduct ⟨Nat.le_of_ble_eq_true rfl, Nat.le_of_ble_eq_true rfl⟩) ⟨x_blind, va_recv hK hP rfl ho0, x_pre hE hA hS hP hD⟩ rfl rfl hl.1 rfl (lv_room (Nat.le_of_ble_eq_true rfl)) d_C_makeProduct_39 ⟨Nat.le_of_ble_eq_true rfl, Nat.le_of_ble_eq_true rfl⟩) hS (fun r19 w18 H locs q17 hP hD hS => ?_)
          refine W.widen (k := 6) (n := 368) (Nat.le_of_ble_eq_true rfl) (Nat.le_of_ble_eq_true rfl) ?_
          have e9 : prodS (V, K) f g = ((V ++ [(2, f, g, 0)], K ++ [(f, g, unit V.length)]), unit V.length) := by unfold prodS; rw [if_neg h1, if_neg h2]
          exact x_aret hx hb hr (Or.inl ⟨_, rfl⟩) hlocks hS hP hD (Nat.le_of_ble_eq_true rfl) (Nat.le_of_ble_eq_true rfl) d_C_makeProduct_42 (by rw [e9]; exact q17)
        · exact False.elim (by omega)
    · exact False.elim (by omega)

set_option maxHeartbeats 4000000 in
set_option maxRecDepth 100000 in
theorem c_mshare (l : Launch) (G : xG) (A : Nat → Prop) (ws : va_W) (o z u lv le lk : Nat) (V : List VV) (E : List EE) (K : List KK) (inp : Nat) (w d : Nat → Nat) (wV wC : Nat) (hR : CCs G ws o z u lv le lk V E K inp w d wV wC) (la ra : Nat) (f g : Nat → Nat) (hf : isS G ws la f) (hg : isS G ws ra g) (bV : V.length + 2 ≤ 60) (bK : K.length + 2 ≤ 80) : Met l y_C_makeShare (cw_C_makeShare :: TW) { frames := 10, cells := 12, slots := 736, locals := 260 } (va_Pc [.ref o, .ref la, .ref ra] (x_P G A ws)) (qR G A (fun r w9 => isS G w9 r (shareS (V, K) f g).2 ∧ CCs G w9 o z u lv le lk (shareS (V, K) f g).1.1 E (shareS (V, K) f g).1.2 inp w d wV wC ∧ kp ws w9)) 12 736 A := by
  refine Met.ofW (cc := b_C_makeShare) (maxL := 4) (ret := (some (.object "ConstraintCompiler$Sum"))) (by decide) rfl ?_
  intro p e s m args below meth c s₁ B hml hv
  obtain ⟨rfl, hE, hA, hP, hD⟩ := hv
  have hx := B.exec
  have hb := B.bytes
  have hr := B.returns
  have ht : ∀ w ∈ TW, w.before _ s = true := fun w h => atoms_spec (ws := cw_C_makeShare :: TW) B.pre w (List.mem_cons_of_mem _ h)
  have hown : s.vm.findClass R_C = some m.cls := findClass_of_methodNamed B.named
  have hlocks := B.notSynchronized
  have hK := hE.1
  have hS : va_S A s.heap s.heap [] := va_S.rf
  have hl := lv_entry ([.ref o, .ref la, .ref ra]) (n := 4) (Nat.le_of_ble_eq_true rfl)
  rw [lg_entry_eq]
  generalize (lg_sl ([.ref o, .ref la, .ref ra]) ++ List.replicate (4 - (lg_sl ([.ref o, .ref la, .ref ra])).length) Slot.unset).toArray = ls at hl ⊢
  have hl : lv_has ls 4 [(0, .ref o), (1, .ref la), (2, .ref ra)] := hl
  obtain ⟨wa0, da0, ho0⟩ := CCs.o hR
  refine lv_aload_n hx hb d_C_makeShare_0 rfl (lv_at hl 0 rfl) ?_
  refine lv_iconst (v := (nI 3)) hx hb d_C_makeShare_1 (by decide) ?_
  refine lv_aload_n hx hb d_C_makeShare_2 rfl (lv_at hl 2 rfl) ?_
  refine lv_aload_n hx hb d_C_makeShare_3 rfl (lv_at hl 0 rfl) ?_
  refine va_get (D := xD G) (ci := 0) (C := R_C) (T := F_C) (N := 10) hx hb ht in_C hown hK hP 0 ho0 rfl 0 (by decide) (ht _ k_fl_C_12) (fun _ h9 => h9) rfl d_C_makeShare_4 ?_
  refine x_calli (va_runV (As := [.int (nI 3), .ref ra, .ref z]) (rest := []) ⟨hx, hb, hml, hown, ht⟩ (c_addV l G A ws o z u lv le lk V E K inp w d wV wC hR (by omega) 3 ra z g zr hg hR.z.1) (cwV 3 ht (TW_V k_ml_C_195 k_im_C_addVariable k_se_C_addVariable k_in_C k_code_C_addVariable) rfl rfl rfl hv_C_addVariable ⟨Nat.le_of_ble_eq_true rfl, Nat.le_of_ble_eq_true rfl⟩) ⟨x_blind, va_recv hK hP rfl ho0, x_pre hE hA hS hP hD⟩ rfl rfl hl.1 rfl (lv_room (Nat.le_of_ble_eq_true rfl)) d_C_makeShare_7 ⟨Nat.le_of_ble_eq_true rfl, Nat.le_of_ble_eq_true rfl⟩) hS (fun r3 w2 H locs q1 hP hD hS => ?_)
  refine W.widen (k := 2) (n := 154) (Nat.le_of_ble_eq_true rfl) (Nat.le_of_ble_eq_true rfl) ?_
  obtain ⟨rfl, hR1, kk1⟩ := q1
  refine x_callr (va_runS (As := [.int (nI V.length)]) (rest := []) ⟨hx, hb, hml, hown, ht⟩ (c_S_of l G A w2 V.length (by omega)) (va_cwS 1 ht (TW_S k_ml_C_16 k_st_S_ofVariable k_in_S k_code_S_ofVariable) rfl rfl rfl hv_S_ofVariable.2 ⟨Nat.le_of_ble_eq_true rfl, Nat.le_of_ble_eq_true rfl⟩) ⟨x_blind, x_pre hE hA hS hP hD⟩ rfl rfl hl.1 rfl (lv_room (Nat.le_of_ble_eq_true rfl)) d_C_makeShare_10 ⟨Nat.le_of_ble_eq_true rfl, Nat.le_of_ble_eq_true rfl⟩) hS (fun r6 w5 H locs q4 hP hD hS => ?_)
  refine W.widen (k := 4) (n := 215) (Nat.le_of_ble_eq_true rfl) (Nat.le_of_ble_eq_true rfl) ?_
  obtain ⟨hR2, kk2, iS⟩ := mkS_CC hR1 q4 (fun j _ => unit_lt _ j)
  obtain ⟨wa2, da2, ho2⟩ := CCs.o hR2
  refine lv_astore_n (lv' := [(3, .ref r6), (0, .ref o), (1, .ref la), (2, .ref ra)]) hx hb d_C_makeShare_13 rfl hl (by decide) rfl (fun ls hl => ?_)
  refine lv_aload_n hx hb d_C_makeShare_14 rfl (lv_at hl 1 rfl) ?_
  refine lv_aload_n hx hb d_C_makeShare_15 rfl (lv_at hl 3 rfl) ?_
  refine lv_aload_n hx hb d_C_makeShare_16 rfl (lv_at hl 0 rfl) ?_
  refine lv_aload_n hx hb d_C_makeShare_17 rfl (lv_at hl 1 rfl) ?_
  refine va_get (D := xD G) (ci := 0) (C := R_C) (T := F_C) (N := 10) hx hb ht in_C hown hK hP 0 ho2 rfl 1 (by decide) (ht _ k_fl_C_20) (fun _ h9 => h9) rfl d_C_makeShare_18 ?_
  refine x_callv (va_runV (As := [.ref ra, .ref r6, .ref u]) (rest := []) ⟨hx, hb, hml, hown, ht⟩ (c_addK l G A w5 o z u lv le lk _ E K inp w d wV wC hR2 (by omega) ra r6 u g (unit V.length) (unit 0) (hg.kp (kk1.tr kk2)) iS hR2.z.2) (cwV 3 ht (TW_V k_ml_C_90 k_im_C_addConstraint k_se_C_addConstraint k_in_C k_code_C_addConstraint) rfl rfl rfl hv_C_addConstraint ⟨Nat.le_of_ble_eq_true rfl, Nat.le_of_ble_eq_true rfl⟩) ⟨x_blind, va_recv hK hP rfl ho2, x_pre hE hA hS hP hD⟩ rfl rfl hl.1 rfl (lv_room (Nat.le_of_ble_eq_true rfl)) d_C_makeShare_21 ⟨Nat.le_of_ble_eq_true rfl, Nat.le_of_ble_eq_true rfl⟩) hS (fun w8 H locs q7 hP hD hS => ?_)
  refine W.widen (k := 6) (n := 368) (Nat.le_of_ble_eq_true rfl) (Nat.le_of_ble_eq_true rfl) ?_
  obtain ⟨hR3, kk3⟩ := q7
  obtain ⟨wa3, da3, ho3⟩ := CCs.o hR3
  refine lv_aload_n hx hb d_C_makeShare_24 rfl (lv_at hl 1 rfl) ?_
  refine lv_aload_n hx hb d_C_makeShare_25 rfl (lv_at hl 2 rfl) ?_
  refine lv_aload_n hx hb d_C_makeShare_26 rfl (lv_at hl 0 rfl) ?_
  refine x_callr (va_runV (As := [.ref la, .ref r6]) (rest := []) ⟨hx, hb, hml, hown, ht⟩ (c_mcp l G A w8 o z u lv le lk _ E _ inp w d wV wC hR3 (by rw [List.length_append]; show V.length + 1 < 60; omega) (by rw [List.length_append]; show K.length + 1 < 80; omega) la r6 f (unit V.length) (hf.kp ((kk1.tr kk2).tr kk3)) (iS.kp kk3)) (cwV 2 ht (TW_V k_ml_C_219 k_im_C_makeConstrainedProduct k_se_C_makeConstrainedProduct k_in_C k_code_C_makeConstrainedProduct) rfl rfl rfl hv_C_makeConstrainedProduct ⟨Nat.le_of_ble_eq_true rfl, Nat.le_of_ble_eq_true rfl⟩) ⟨x_blind, va_recv hK hP rfl ho3, x_pre hE hA hS hP hD⟩ rfl rfl hl.1 rfl (lv_room (Nat.le_of_ble_eq_true rfl)) d_C_makeShare_27 ⟨Nat.le_of_ble_eq_true rfl, Nat.le_of_ble_eq_true rfl⟩) hS (fun r11 w10 H locs q9 hP hD hS => ?_)
  refine W.widen (k := 12) (n := 736) (Nat.le_of_ble_eq_true rfl) (Nat.le_of_ble_eq_true rfl) ?_
  obtain ⟨iS4, hR4, kk4⟩ := q9
  exact x_aret hx hb hr (Or.inl ⟨_, rfl⟩) hlocks hS hP hD (Nat.le_of_ble_eq_true rfl) (Nat.le_of_ble_eq_true rfl) d_C_makeShare_30 (⟨iS4, hR4, ((kk1.tr kk2).tr kk3).tr kk4⟩)

set_option maxHeartbeats 4000000 in
set_option maxRecDepth 100000 in
theorem c_msame (l : Launch) (G : xG) (A : Nat → Prop) (ws : va_W) (o z u lv le lk : Nat) (V : List VV) (E : List EE) (K : List KK) (inp : Nat) (w d : Nat → Nat) (wV wC : Nat) (hR : CCs G ws o z u lv le lk V E K inp w d wV wC) (la : Nat) (f : Nat → Nat) (hf : isS G ws la f) (bV : V.length + 2 ≤ 60) (bK : K.length + 2 ≤ 80) : Met l y_C_makeSame (cw_C_makeSame :: TW) { frames := 10, cells := 14, slots := 797, locals := 260 } (va_Pc [.ref o, .ref la] (x_P G A ws)) (qR G A (fun r w9 => isS G w9 r (sameS (V, K) f).2 ∧ CCs G w9 o z u lv le lk (sameS (V, K) f).1.1 E (sameS (V, K) f).1.2 inp w d wV wC ∧ kp ws w9)) 14 797 A := by
  refine Met.ofW (cc := b_C_makeSame) (maxL := 4) (ret := (some (.object "ConstraintCompiler$Sum"))) (by decide) rfl ?_
  intro p e s m args below meth c s₁ B hml hv
  obtain ⟨rfl, hE, hA, hP, hD⟩ := hv
  have hx := B.exec
  have hb := B.bytes
  have hr := B.returns
  have ht : ∀ w ∈ TW, w.before _ s = true := fun w h => atoms_spec (ws := cw_C_makeSame :: TW) B.pre w (List.mem_cons_of_mem _ h)
  have hown : s.vm.findClass R_C = some m.cls := findClass_of_methodNamed B.named
  have hlocks := B.notSynchronized
  have hK := hE.1
  have hS : va_S A s.heap s.heap [] := va_S.rf
  have hl := lv_entry ([.ref o, .ref la]) (n := 4) (Nat.le_of_ble_eq_true rfl)
  rw [lg_entry_eq]
  generalize (lg_sl ([.ref o, .ref la]) ++ List.replicate (4 - (lg_sl ([.ref o, .ref la])).length) Slot.unset).toArray = ls at hl ⊢
  have hl : lv_has ls 4 [(0, .ref o), (1, .ref la)] := hl
  obtain ⟨wa0, da0, ho0⟩ := CCs.o hR
  refine lv_aload_n hx hb d_C_makeSame_0 rfl (lv_at hl 0 rfl) ?_
  refine lv_iconst (v := (nI 4)) hx hb d_C_makeSame_1 (by decide) ?_
  refine lv_aload_n hx hb d_C_makeSame_2 rfl (lv_at hl 1 rfl) ?_
  refine lv_aload_n hx hb d_C_makeSame_3 rfl (lv_at hl 0 rfl) ?_
  refine va_get (D := xD G) (ci := 0) (C := R_C) (T := F_C) (N := 10) hx hb ht in_C hown hK hP 0 ho0 rfl 0 (by decide) (ht _ k_fl_C_12) (fun _ h9 => h9) rfl d_C_makeSame_4 ?_
  refine x_calli (va_runV (As := [.int (nI 4), .ref la, .ref z]) (rest := []) ⟨hx, hb, hml, hown, ht⟩ (c_addV l G A ws o z u lv le lk V E K inp w d wV wC hR (by omega) 4 la z f zr hf hR.z.1) (cwV 3 ht (TW_V k_ml_C_195 k_im_C_addVariable k_se_C_addVariable k_in_C k_code_C_addVariable) rfl rfl rfl hv_C_addVariable ⟨Nat.le_of_ble_eq_true rfl, Nat.le_of_ble_eq_true rfl⟩) ⟨x_blind, va_recv hK hP rfl ho0, x_pre hE hA hS hP hD⟩ rfl rfl hl.1 rfl (lv_room (Nat.le_of_ble_eq_true rfl)) d_C_makeSame_7 ⟨Nat.le_of_ble_eq_true rfl, Nat.le_of_ble_eq_true rfl⟩) hS (fun r3 w2 H locs q1 hP hD hS => ?_)
  refine W.widen (k := 2) (n := 154) (Nat.le_of_ble_eq_true rfl) (Nat.le_of_ble_eq_true rfl) ?_
  obtain ⟨rfl, hR1, kk1⟩ := q1
  refine x_callr (va_runS (As := [.int (nI V.length)]) (rest := []) ⟨hx, hb, hml, hown, ht⟩ (c_S_of l G A w2 V.length (by omega)) (va_cwS 1 ht (TW_S k_ml_C_16 k_st_S_ofVariable k_in_S k_code_S_ofVariable) rfl rfl rfl hv_S_ofVariable.2 ⟨Nat.le_of_ble_eq_true rfl, Nat.le_of_ble_eq_true rfl⟩) ⟨x_blind, x_pre hE hA hS hP hD⟩ rfl rfl hl.1 rfl (lv_room (Nat.le_of_ble_eq_true rfl)) d_C_makeSame_10 ⟨Nat.le_of_ble_eq_true rfl, Nat.le_of_ble_eq_true rfl⟩) hS (fun r6 w5 H locs q4 hP hD hS => ?_)
  refine W.widen (k := 4) (n := 215) (Nat.le_of_ble_eq_true rfl) (Nat.le_of_ble_eq_true rfl) ?_
  obtain ⟨hR2, kk2, iS⟩ := mkS_CC hR1 q4 (fun j _ => unit_lt _ j)
  have kA := kk1.tr kk2
  obtain ⟨wa2, da2, ho2⟩ := CCs.o hR2
  refine lv_astore_n (lv' := [(2, .ref r6), (0, .ref o), (1, .ref la)]) hx hb d_C_makeSame_13 rfl hl (by decide) rfl (fun ls hl => ?_)
  refine lv_aload_n hx hb d_C_makeSame_14 rfl (lv_at hl 1 rfl) ?_
  refine lv_iconst (v := (nI 5)) hx hb d_C_makeSame_15 (by decide) ?_
  refine lv_aload_n hx hb d_C_makeSame_16 rfl (lv_at hl 2 rfl) ?_
  refine lv_aload_n hx hb d_C_makeSame_17 rfl (lv_at hl 1 rfl) ?_
  refine va_get (D := xD G) (ci := 0) (C := R_C) (T := F_C) (N := 10) hx hb ht in_C hown hK hP 0 ho2 rfl 0 (by decide) (ht _ k_fl_C_12) (fun _ h9 => h9) rfl d_C_makeSame_18 ?_
  refine x_calli (va_runV (As := [.int (nI 5), .ref la, .ref z]) (rest := []) ⟨hx, hb, hml, hown, ht⟩ (c_addV l G A w5 o z u lv le lk _ E K inp w d wV wC hR2 (by rw [List.length_append]; show V.length + 1 ≤ 60; omega) 5 la z f zr (hf.kp kA) hR2.z.1) (cwV 3 ht (TW_V k_ml_C_195 k_im_C_addVariable k_se_C_addVariable k_in_C k_code_C_addVariable) rfl rfl rfl hv_C_addVariable ⟨Nat.le_of_ble_eq_true rfl, Nat.le_of_ble_eq_true rfl⟩) ⟨x_blind, va_recv hK hP rfl ho2, x_pre hE hA hS hP hD⟩ rfl rfl hl.1 rfl (lv_room (Nat.le_of_ble_eq_true rfl)) d_C_makeSame_21 ⟨Nat.le_of_ble_eq_true rfl, Nat.le_of_ble_eq_true rfl⟩) hS (fun r9 w8 H locs q7 hP hD hS => ?_)
  refine W.widen (k := 6) (n := 369) (Nat.le_of_ble_eq_true rfl) (Nat.le_of_ble_eq_true rfl) ?_
  obtain ⟨rfl, hR3, kk3⟩ := q7
  refine x_callr (va_runS (As := [.int (nI (V ++ [(4, f, zr, 0)]).length)]) (rest := []) ⟨hx, hb, hml, hown, ht⟩ (c_S_of l G A w8 (V ++ [(4, f, zr, 0)]).length (by rw [List.length_append]; show V.length + 1 < 60; omega)) (va_cwS 1 ht (TW_S k_ml_C_16 k_st_S_ofVariable k_in_S k_code_S_ofVariable) rfl rfl rfl hv_S_ofVariable.2 ⟨Nat.le_of_ble_eq_true rfl, Nat.le_of_ble_eq_true rfl⟩) ⟨x_blind, x_pre hE hA hS hP hD⟩ rfl rfl hl.1 rfl (lv_room (Nat.le_of_ble_eq_true rfl)) d_C_makeSame_24 ⟨Nat.le_of_ble_eq_true rfl, Nat.le_of_ble_eq_true rfl⟩) hS (fun r12 w11 H locs q10 hP hD hS => ?_)
  refine W.widen (k := 8) (n := 430) (Nat.le_of_ble_eq_true rfl) (Nat.le_of_ble_eq_true rfl) ?_
  obtain ⟨hR4, kk4, iR⟩ := mkS_CC hR3 q10 (fun j _ => unit_lt _ j)
  have kB := (kA.tr kk3).tr kk4
  obtain ⟨wa4, da4, ho4⟩ := CCs.o hR4
  have iu := hR4.z.2
  obtain ⟨kU, jU, cU, fU, pU, qU, nU, oU, eU, bU⟩ := id iu
  refine lv_astore_n (lv' := [(3, .ref r12), (2, .ref r6), (0, .ref o), (1, .ref la)]) hx hb d_C_makeSame_27 rfl hl (by decide) rfl (fun ls hl => ?_)
  refine lv_aload_n hx hb d_C_makeSame_28 rfl (lv_at hl 2 rfl) ?_
  refine lv_aload_n hx hb d_C_makeSame_29 rfl (lv_at hl 3 rfl) ?_
  refine lv_aload_n hx hb d_C_makeSame_30 rfl (lv_at hl 1 rfl) ?_
  refine lv_aload_n hx hb d_C_makeSame_31 rfl (lv_at hl 2 rfl) ?_
  refine va_get (D := xD G) (ci := 0) (C := R_C) (T := F_C) (N := 10) hx hb ht in_C hown hK hP 0 ho4 rfl 1 (by decide) (ht _ k_fl_C_20) (fun _ h9 => h9) rfl d_C_makeSame_32 ?_
  refine lv_aload_n hx hb d_C_makeSame_35 rfl (lv_at hl 0 rfl) ?_
  refine x_callr (va_runV (As := [.ref r12]) (rest := [.ref r6, .ref la, .ref o]) ⟨hx, hb, hml, hown, ht⟩ (c_S_minus l G A w11 u r12 (unit 0) _ iu iR) (cwV 1 ht (TW_V k_ml_C_97 k_im_S_minus k_se_S_minus k_in_S k_code_S_minus) rfl rfl rfl hv_S_minus ⟨Nat.le_of_ble_eq_true rfl, Nat.le_of_ble_eq_true rfl⟩) ⟨x_blind, va_recv hK hP rfl pU, x_pre hE hA hS hP hD⟩ rfl rfl hl.1 rfl (lv_room (Nat.le_of_ble_eq_true rfl)) d_C_makeSame_36 ⟨Nat.le_of_ble_eq_true rfl, Nat.le_of_ble_eq_true rfl⟩) hS (fun r15 w14 H locs q13 hP hD hS => ?_)
  refine W.widen (k := 10) (n := 491) (Nat.le_of_ble_eq_true rfl) (Nat.le_of_ble_eq_true rfl) ?_
  obtain ⟨hR5, kk5, iD⟩ := mkS_CC hR4 q13 (fun j _ => cmb_lt j)
  obtain ⟨wa5, da5, ho5⟩ := CCs.o hR5
  refine x_callv (va_runV (As := [.ref la, .ref r6, .ref r15]) (rest := []) ⟨hx, hb, hml, hown, ht⟩ (c_addK l G A w14 o z u lv le lk _ E K inp w d wV wC hR5 (by omega) la r6 r15 f _ _ (hf.kp (kB.tr kk5)) (iS.kp ((kk3.tr kk4).tr kk5)) iD) (cwV 3 ht (TW_V k_ml_C_90 k_im_C_addConstraint k_se_C_addConstraint k_in_C k_code_C_addConstraint) rfl rfl rfl hv_C_addConstraint ⟨Nat.le_of_ble_eq_true rfl, Nat.le_of_ble_eq_true rfl⟩) ⟨x_blind, va_recv hK hP rfl ho5, x_pre hE hA hS hP hD⟩ rfl rfl hl.1 rfl (lv_room (Nat.le_of_ble_eq_true rfl)) d_C_makeSame_39 ⟨Nat.le_of_ble_eq_true rfl, Nat.le_of_ble_eq_true rfl⟩) hS (fun w17 H locs q16 hP hD hS => ?_)
  refine W.widen (k := 12) (n := 644) (Nat.le_of_ble_eq_true rfl) (Nat.le_of_ble_eq_true rfl) ?_
  obtain ⟨hR6, kk6⟩ := q16
  have kC := (kB.tr kk5).tr kk6
  obtain ⟨wa6, da6, ho6⟩ := CCs.o hR6
  refine lv_aload_n hx hb d_C_makeSame_42 rfl (lv_at hl 2 rfl) ?_
  refine lv_aload_n hx hb d_C_makeSame_43 rfl (lv_at hl 3 rfl) ?_
  refine lv_aload_n hx hb d_C_makeSame_44 rfl (lv_at hl 0 rfl) ?_
  refine lv_aload_n hx hb d_C_makeSame_45 rfl (lv_at hl 2 rfl) ?_
  refine va_get (D := xD G) (ci := 0) (C := R_C) (T := F_C) (N := 10) hx hb ht in_C hown hK hP 0 ho6 rfl 0 (by decide) (ht _ k_fl_C_12) (fun _ h9 => h9) rfl d_C_makeSame_46 ?_
  refine x_callv (va_runV (As := [.ref la, .ref r12, .ref z]) (rest := []) ⟨hx, hb, hml, hown, ht⟩ (c_addK l G A w17 o z u lv le lk _ E _ inp w d wV wC hR6 (by rw [List.length_append]; show K.length + 1 ≤ 80; omega) la r12 z f _ zr (hf.kp kC) (iR.kp (kk5.tr kk6)) hR6.z.1) (cwV 3 ht (TW_V k_ml_C_90 k_im_C_addConstraint k_se_C_addConstraint k_in_C k_code_C_addConstraint) rfl rfl rfl hv_C_addConstraint ⟨Nat.le_of_ble_eq_true rfl, Nat.le_of_ble_eq_true rfl⟩) ⟨x_blind, va_recv hK hP rfl ho6, x_pre hE hA hS hP hD⟩ rfl rfl hl.1 rfl (lv_room (Nat.le_of_ble_eq_true rfl)) d_C_makeSame_49 ⟨Nat.le_of_ble_eq_true rfl, Nat.le_of_ble_eq_true rfl⟩) hS (fun w19 H locs q18 hP hD hS => ?_)
  refine W.widen (k := 14) (n := 797) (Nat.le_of_ble_eq_true rfl) (Nat.le_of_ble_eq_true rfl) ?_
  obtain ⟨hR7, kk7⟩ := q18
  refine lv_aload_n hx hb d_C_makeSame_52 rfl (lv_at hl 0 rfl) ?_
  exact x_aret hx hb hr (Or.inl ⟨_, rfl⟩) hlocks hS hP hD (Nat.le_of_ble_eq_true rfl) (Nat.le_of_ble_eq_true rfl) d_C_makeSame_53 (⟨iR.kp ((kk5.tr kk6).tr kk7), hR7, kC.tr kk7⟩)
