theorem nI_m1 {v : Nat} (h : v < 2 ^ 31) : nI v ≠ -1 := fun e => by
  have h1 := congrArg Int32.toInt e
  rw [nI_toInt h] at h1
  have h2 : (-1 : Int32).toInt = -1 := by decide
  omega

set_option maxHeartbeats 4000000 in
set_option maxRecDepth 100000 in
theorem c_broken (l : Launch) (G : xG) (A : Nat → Prop) (ws : va_W) (o z u lv le lk : Nat) (V : List VV) (E : List EE) (K : List KK) (inp : Nat) (w d : Nat → Nat) (wV wC : Nat) (hR : CCs G ws o z u lv le lk V E K inp w d wV wC) (bK : K.length ≤ 80) (bC : wC ≤ K.length) : Met l y_C_howManyBroken (cw_C_howManyBroken :: TW) { frames := 5, cells := 0, slots := 0, locals := 130 } (va_Pc [.ref o] (x_P G A ws)) (qI G A (fun r w9 => ws = w9 ∧ r = nI (brk K w wC))) 0 0 A := by
  refine Met.ofW (cc := b_C_howManyBroken) (maxL := 3) (ret := (some .int)) (by decide) rfl ?_
  intro p e s m args below meth c s₁ B hml hv
  obtain ⟨rfl, hE, hA, hP, hD⟩ := hv
  have hx := B.exec
  have hb := B.bytes
  have hr := B.returns
  have ht : ∀ w ∈ TW, w.before _ s = true := fun w h => atoms_spec (ws := cw_C_howManyBroken :: TW) B.pre w (List.mem_cons_of_mem _ h)
  have hown : s.vm.findClass R_C = some m.cls := findClass_of_methodNamed B.named
  have hlocks := B.notSynchronized
  have hK := hE.1
  have hS : va_S A s.heap s.heap [] := va_S.rf
  have hl := lv_entry ([.ref o]) (n := 3) (Nat.le_of_ble_eq_true rfl)
  rw [lg_entry_eq]
  generalize (lg_sl ([.ref o]) ++ List.replicate (3 - (lg_sl ([.ref o])).length) Slot.unset).toArray = ls at hl ⊢
  have hl : lv_has ls 3 [(0, .ref o)] := hl
  obtain ⟨wa, da, kV, kE, kK, gV, gE, gK, hX⟩ := id hR
  obtain ⟨x1, x2, x3, x4, x5, x6, x7, x8, x9, x10, x11, x12, x13⟩ := id hX
  obtain ⟨mo_v, ae_v, li_v, -⟩ := id x4
  obtain ⟨mo_e, ae_e, li_e, -⟩ := id x5
  obtain ⟨mo_k, ae_k, li_k, -⟩ := id x6
  obtain ⟨kw, kd, hw, hd, y0, y1, y2, y3, y4, y5, y6⟩ := id x12
  have iw : isW G ws wa w := ⟨kw, hw, y1, y3, y4⟩
  refine lv_iconst (v := (nI 0)) hx hb d_C_howManyBroken_0 (by decide) ?_
  refine lv_istore_n (lv' := [(1, .int (nI 0)), (0, .ref o)]) hx hb d_C_howManyBroken_1 rfl hl (by decide) rfl (fun ls hl => ?_)
  refine lv_iconst (v := (nI 0)) hx hb d_C_howManyBroken_2 (by decide) ?_
  refine lv_istore_n (lv' := [(2, .int (nI 0)), (1, .int (nI 0)), (0, .ref o)]) hx hb d_C_howManyBroken_3 rfl hl (by decide) rfl (fun ls hl => ?_)
  have loop : ∀ (n i : Nat), i + n = wC → ∀ (H : Heap) (locs : List Loc) (ls : Array Slot), (va_P (xD G) CL ws H) → (va_S A s.heap H locs) → lv_has ls 3 [(2, .int (nI i)), (1, .int (nI (brk K w i))), (0, .ref o)] → W p l e (headSpec (cw_C_howManyBroken :: TW) { frames := 5, cells := 0, slots := 0, locals := 130 }).room s m ([.ref o] : List Value).toArray below meth c H locs 0 0 (MQ below (qI G A (fun r w9 => ws = w9 ∧ r = nI (brk K w wC))) ([.ref o] : List Value).toArray s 0 0 A) (F0 m 4 ls []) := by
    intro n
    induction n with
    | zero =>
      intro i hi H locs ls hP hS hl
      refine lv_iload_n hx hb d_C_howManyBroken_4 rfl (lv_at hl 0 rfl) ?_
      refine lv_aload_n hx hb d_C_howManyBroken_5 rfl (lv_at hl 2 rfl) ?_
      refine va_get (D := xD G) (ci := 0) (C := R_C) (T := F_C) (N := 10) hx hb ht in_C hown hK hP 0 x1 rfl 9 (by decide) (ht _ k_fl_C_135) (fun _ h9 => h9) rfl d_C_howManyBroken_6 ?_
      refine x_ge hx hb i wC rfl rfl (by omega) (by omega) (tgt := 42) d_C_howManyBroken_9 (by decide) (fun c1 => ?_) (fun c1 => ?_)
      · have i0 : i = wC := by omega
        refine lv_iload_n hx hb d_C_howManyBroken_42 rfl (lv_at hl 1 rfl) ?_
        exact x_iret hx hb hr hlocks hS hP hD (Nat.le_of_ble_eq_true rfl) (Nat.le_of_ble_eq_true rfl) d_C_howManyBroken_43 (⟨rfl, by rw [i0]⟩)
      · exact False.elim (by omega)
    | succ n ih =>
      intro i hi H locs ls hP hS hl
      refine lv_iload_n hx hb d_C_howManyBroken_4 rfl (lv_at hl 0 rfl) ?_
      refine lv_aload_n hx hb d_C_howManyBroken_5 rfl (lv_at hl 2 rfl) ?_
      refine va_get (D := xD G) (ci := 0) (C := R_C) (T := F_C) (N := 10) hx hb ht in_C hown hK hP 0 x1 rfl 9 (by decide) (ht _ k_fl_C_135) (fun _ h9 => h9) rfl d_C_howManyBroken_6 ?_
      refine x_ge hx hb i wC rfl rfl (by omega) (by omega) (tgt := 42) d_C_howManyBroken_9 (by decide) (fun c2 => ?_) (fun c2 => ?_)
      · exact False.elim (by omega)
      · obtain ⟨y, hy⟩ := V_get (show i < K.length by omega)
        have hi9 : i < K.length := by omega
        have bl := brk_le K w i
        refine lv_aload_n hx hb d_C_howManyBroken_12 rfl (lv_at hl 2 rfl) ?_
        refine va_get (D := xD G) (ci := 0) (C := R_C) (T := F_C) (N := 10) hx hb ht in_C hown hK hP 0 x1 rfl 4 (by decide) (ht _ k_fl_C_33) (fun _ h9 => h9) rfl d_C_howManyBroken_13 ?_
        refine lv_iload_n hx hb d_C_howManyBroken_16 rfl (lv_at hl 0 rfl) ?_
        refine x_callr (va_runV (As := [.int (nI i)]) (rest := []) ⟨hx, hb, hml, hown, ht⟩ (c_A_get l G A ws 7 kK lk K.length i gK x6 hi9 (by omega)) (cwV 1 ht (TW_V k_ml_C_104 k_im_A_get k_se_A_get k_in_A k_code_A_get) rfl rfl rfl hv_A_get ⟨Nat.le_of_ble_eq_true rfl, Nat.le_of_ble_eq_true rfl⟩) ⟨x_blind, va_recv hK hP rfl li_k, x_pre hE hA hS hP hD⟩ rfl rfl hl.1 rfl (lv_room (Nat.le_of_ble_eq_true rfl)) d_C_howManyBroken_17 ⟨Nat.le_of_ble_eq_true rfl, Nat.le_of_ble_eq_true rfl⟩) hS (fun r5 w4 H locs q3 hP hD hS => ?_)
        obtain ⟨rfl, rfl⟩ := q3
        have ic := x9 i y hy
        obtain ⟨k9, xa9, ya9, za9, c9, -⟩ := id ic
        refine va_castY hx hb hown (ht _ k_cl_C_151) (hE.2.2.2.2.2.2.2 _ k_ca_K_K) (va_recv hK hP rfl c9) d_C_howManyBroken_20 ?_
        refine lv_aload_n hx hb d_C_howManyBroken_23 rfl (lv_at hl 2 rfl) ?_
        refine va_get (D := xD G) (ci := 0) (C := R_C) (T := F_C) (N := 10) hx hb ht in_C hown hK hP 0 x1 rfl 6 (by decide) (ht _ k_fl_C_36) (fun _ h9 => h9) rfl d_C_howManyBroken_24 ?_
        refine x_calli (va_runV (As := [.ref wa]) (rest := []) ⟨hx, hb, hml, hown, ht⟩ (c_holds l G A ws (gK i) wa y w ic iw) (cwV 1 ht (TW_V k_ml_C_153 k_im_K_holdsFor k_se_K_holdsFor k_in_K k_code_K_holdsFor) rfl rfl rfl hv_K_holdsFor ⟨Nat.le_of_ble_eq_true rfl, Nat.le_of_ble_eq_true rfl⟩) ⟨x_blind, va_recv hK hP rfl c9, x_pre hE hA hS hP hD⟩ rfl rfl hl.1 rfl (lv_room (Nat.le_of_ble_eq_true rfl)) d_C_howManyBroken_27 ⟨Nat.le_of_ble_eq_true rfl, Nat.le_of_ble_eq_true rfl⟩) hS (fun r8 w7 H locs q6 hP hD hS => ?_)
        obtain ⟨rfl, ⟨rfl, hq⟩ | ⟨rfl, hq⟩⟩ := q6
        · refine x_if_ne hx hb 1 rfl (by omega) (tgt := 36) d_C_howManyBroken_30 (by decide) (fun c9 => ?_) (fun c9 => ?_)
          · refine lv_iinc (v := nI (i + 1)) (lv' := [(2, .int (nI (i + 1))), (1, .int (nI (brk K w i))), (0, .ref o)]) hx hb d_C_howManyBroken_36 hl (k := 0) rfl (n_inc _) (by decide) rfl (fun ls hl => ?_)
            refine lv_goto (tgt := 4) hx hb d_C_howManyBroken_39 (by decide) ?_
            have e9 : brk K w (i + 1) = brk K w i + 0 := by show brk K w i + _ = _; rw [kAt_of hy, if_pos hq]
            exact ih (i + 1) (by omega) H locs ls hP hS (by rw [e9]; exact (lv_sub hl [0, 1, 2] rfl))
          · exact False.elim (by omega)
        · refine x_if_ne hx hb 0 rfl (by omega) (tgt := 36) d_C_howManyBroken_30 (by decide) (fun c10 => ?_) (fun c10 => ?_)
          · exact False.elim (by omega)
          · refine lv_iinc (v := nI (brk K w i + 1)) (lv' := [(1, .int (nI (brk K w i + 1))), (2, .int (nI i)), (0, .ref o)]) hx hb d_C_howManyBroken_33 hl (k := 1) rfl (n_inc _) (by decide) rfl (fun ls hl => ?_)
            refine lv_iinc (v := nI (i + 1)) (lv' := [(2, .int (nI (i + 1))), (1, .int (nI (brk K w i + 1))), (0, .ref o)]) hx hb d_C_howManyBroken_36 hl (k := 1) rfl (n_inc _) (by decide) rfl (fun ls hl => ?_)
            refine lv_goto (tgt := 4) hx hb d_C_howManyBroken_39 (by decide) ?_
            have e9 : brk K w (i + 1) = brk K w i + 1 := by show brk K w i + _ = _; rw [kAt_of hy, if_neg hq]
            exact ih (i + 1) (by omega) H locs ls hP hS (by rw [e9]; exact (lv_sub hl [0, 1, 2] rfl))
  exact loop wC 0 (by omega) s.heap [] ls hP hS hl

set_option maxHeartbeats 4000000 in
set_option maxRecDepth 100000 in
theorem c_fill (l : Launch) (G : xG) (A : Nat → Prop) (ws : va_W) (o z u lv le lk : Nat) (V : List VV) (E : List EE) (K : List KK) (inp : Nat) (w d : Nat → Nat) (wV wC : Nat) (hR : CCs G ws o z u lv le lk V E K inp w d wV wC) (bV : V.length ≤ 60) (bR : ∀ (i : Nat) (x : VV), V[i]? = some x → x.1 ≤ 5 ∧ x.2.2.2 < 97) : Met l y_C_fillDraft (cw_C_fillDraft :: TW) { frames := 5, cells := 0, slots := 0, locals := 130 } (va_Pc [.ref o] (x_P G A ws)) (qI G A (fun r w9 => ∃ d' : Nat → Nat, CCs G w9 o z u lv le lk V E K inp w d' wV wC ∧ kp ws w9 ∧ ((r = nI 1 ∧ fil V V.length 0 d = (true, d')) ∨ (r = nI 0 ∧ fil V V.length 0 d = (false, d'))))) 0 0 A := by
  refine Met.ofW (cc := b_C_fillDraft) (maxL := 3) (ret := (some .boolean)) (by decide) rfl ?_
  intro p e s m args below meth c s₁ B hml hv
  obtain ⟨rfl, hE, hA, hP, hD⟩ := hv
  have hx := B.exec
  have hb := B.bytes
  have hr := B.returns
  have ht : ∀ w ∈ TW, w.before _ s = true := fun w h => atoms_spec (ws := cw_C_fillDraft :: TW) B.pre w (List.mem_cons_of_mem _ h)
  have hown : s.vm.findClass R_C = some m.cls := findClass_of_methodNamed B.named
  have hlocks := B.notSynchronized
  have hK := hE.1
  have hS : va_S A s.heap s.heap [] := va_S.rf
  have hl := lv_entry ([.ref o]) (n := 3) (Nat.le_of_ble_eq_true rfl)
  rw [lg_entry_eq]
  generalize (lg_sl ([.ref o]) ++ List.replicate (3 - (lg_sl ([.ref o])).length) Slot.unset).toArray = ls at hl ⊢
  have hl : lv_has ls 3 [(0, .ref o)] := hl
  refine lv_iconst (v := (nI 0)) hx hb d_C_fillDraft_0 (by decide) ?_
  refine lv_istore_n (lv' := [(1, .int (nI 0)), (0, .ref o)]) hx hb d_C_fillDraft_1 rfl hl (by decide) rfl (fun ls hl => ?_)
  have loop : ∀ (n i : Nat), i + n = V.length → ∀ (d9 : Nat → Nat) (w9 : va_W) (H : Heap) (locs : List Loc) (ls : Array Slot), fil V n i d9 = fil V V.length 0 d → CCs G w9 o z u lv le lk V E K inp w d9 wV wC → kp ws w9 → va_P (xD G) CL w9 H → va_D A w9 → va_S A s.heap H locs → lv_has ls 3 [(1, .int (nI i)), (0, .ref o)] → W p l e (headSpec (cw_C_fillDraft :: TW) { frames := 5, cells := 0, slots := 0, locals := 130 }).room s m ([.ref o] : List Value).toArray below meth c H locs 0 0 (MQ below (qI G A (fun r w9 => ∃ d' : Nat → Nat, CCs G w9 o z u lv le lk V E K inp w d' wV wC ∧ kp ws w9 ∧ ((r = nI 1 ∧ fil V V.length 0 d = (true, d')) ∨ (r = nI 0 ∧ fil V V.length 0 d = (false, d'))))) ([.ref o] : List Value).toArray s 0 0 A) (F0 m 2 ls []) := by
    intro n
    induction n with
    | zero =>
      intro i hi d9 w9 H locs ls he hR9 kk hP hD hS hl
      obtain ⟨wa, da, kV, kE, kK, gV, gE, gK, hX⟩ := id hR9
      obtain ⟨x1, x2, x3, x4, x5, x6, x7, x8, x9, x10, x11, x12, x13⟩ := id hX
      obtain ⟨mo_v, ae_v, li_v, -⟩ := id x4
      obtain ⟨mo_e, ae_e, li_e, -⟩ := id x5
      obtain ⟨mo_k, ae_k, li_k, -⟩ := id x6
      obtain ⟨kw, kd, hw, hd, y0, y1, y2, y3, y4, y5, y6⟩ := id x12
      refine lv_iload_n hx hb d_C_fillDraft_2 rfl (lv_at hl 0 rfl) ?_
      refine lv_aload_n hx hb d_C_fillDraft_3 rfl (lv_at hl 1 rfl) ?_
      refine va_get (D := xD G) (ci := 0) (C := R_C) (T := F_C) (N := 10) hx hb ht in_C hown hK hP 0 x1 rfl 2 (by decide) (ht _ k_fl_C_26) (fun _ h9 => h9) rfl d_C_fillDraft_4 ?_
      refine x_calli (va_runV (As := []) (rest := [.int (nI i)]) ⟨hx, hb, hml, hown, ht⟩ (c_A_size l G A w9 5 kV lv V.length gV x4) (cwV 0 ht (TW_V k_ml_C_78 k_im_A_size k_se_A_size k_in_A k_code_A_size) rfl rfl rfl hv_A_size ⟨Nat.le_of_ble_eq_true rfl, Nat.le_of_ble_eq_true rfl⟩) ⟨x_blind, va_recv hK hP rfl li_v, x_pre hE hA hS hP hD⟩ rfl rfl hl.1 rfl (lv_room (Nat.le_of_ble_eq_true rfl)) d_C_fillDraft_7 ⟨Nat.le_of_ble_eq_true rfl, Nat.le_of_ble_eq_true rfl⟩) hS (fun r3 w2 H locs q1 hP hD hS => ?_)
      obtain ⟨rfl, rfl⟩ := q1
      refine x_ge hx hb i V.length rfl rfl (by omega) (by omega) (tgt := 52) d_C_fillDraft_10 (by decide) (fun c4 => ?_) (fun c4 => ?_)
      · refine lv_iconst (v := (nI 1)) hx hb d_C_fillDraft_52 (by decide) ?_
        exact x_zret hx hb hr hlocks hS hP hD (Nat.le_of_ble_eq_true rfl) (Nat.le_of_ble_eq_true rfl) d_C_fillDraft_53 rfl (⟨d9, hR9, kk, Or.inl ⟨rfl, he.symm⟩⟩)
      · exact False.elim (by omega)
    | succ n ih =>
      intro i hi d9 w9 H locs ls he hR9 kk hP hD hS hl
      obtain ⟨wa, da, kV, kE, kK, gV, gE, gK, hX⟩ := id hR9
      obtain ⟨x1, x2, x3, x4, x5, x6, x7, x8, x9, x10, x11, x12, x13⟩ := id hX
      obtain ⟨mo_v, ae_v, li_v, -⟩ := id x4
      obtain ⟨mo_e, ae_e, li_e, -⟩ := id x5
      obtain ⟨mo_k, ae_k, li_k, -⟩ := id x6
      obtain ⟨kw, kd, hw, hd, y0, y1, y2, y3, y4, y5, y6⟩ := id x12
      refine lv_iload_n hx hb d_C_fillDraft_2 rfl (lv_at hl 0 rfl) ?_
      refine lv_aload_n hx hb d_C_fillDraft_3 rfl (lv_at hl 1 rfl) ?_
      refine va_get (D := xD G) (ci := 0) (C := R_C) (T := F_C) (N := 10) hx hb ht in_C hown hK hP 0 x1 rfl 2 (by decide) (ht _ k_fl_C_26) (fun _ h9 => h9) rfl d_C_fillDraft_4 ?_
      refine x_calli (va_runV (As := []) (rest := [.int (nI i)]) ⟨hx, hb, hml, hown, ht⟩ (c_A_size l G A w9 5 kV lv V.length gV x4) (cwV 0 ht (TW_V k_ml_C_78 k_im_A_size k_se_A_size k_in_A k_code_A_size) rfl rfl rfl hv_A_size ⟨Nat.le_of_ble_eq_true rfl, Nat.le_of_ble_eq_true rfl⟩) ⟨x_blind, va_recv hK hP rfl li_v, x_pre hE hA hS hP hD⟩ rfl rfl hl.1 rfl (lv_room (Nat.le_of_ble_eq_true rfl)) d_C_fillDraft_7 ⟨Nat.le_of_ble_eq_true rfl, Nat.le_of_ble_eq_true rfl⟩) hS (fun r7 w6 H locs q5 hP hD hS => ?_)
      obtain ⟨rfl, rfl⟩ := q5
      refine x_ge hx hb i V.length rfl rfl (by omega) (by omega) (tgt := 52) d_C_fillDraft_10 (by decide) (fun c8 => ?_) (fun c8 => ?_)
      · exact False.elim (by omega)
      · have hi9 : i < V.length := by omega
        obtain ⟨y, hy⟩ := V_get hi9
        refine lv_aload_n hx hb d_C_fillDraft_13 rfl (lv_at hl 1 rfl) ?_
        refine va_get (D := xD G) (ci := 0) (C := R_C) (T := F_C) (N := 10) hx hb ht in_C hown hK hP 0 x1 rfl 2 (by decide) (ht _ k_fl_C_26) (fun _ h9 => h9) rfl d_C_fillDraft_14 ?_
        refine lv_iload_n hx hb d_C_fillDraft_17 rfl (lv_at hl 0 rfl) ?_
        refine x_callr (va_runV (As := [.int (nI i)]) (rest := []) ⟨hx, hb, hml, hown, ht⟩ (c_A_get l G A w9 5 kV lv V.length i gV x4 hi9 (by omega)) (cwV 1 ht (TW_V k_ml_C_104 k_im_A_get k_se_A_get k_in_A k_code_A_get) rfl rfl rfl hv_A_get ⟨Nat.le_of_ble_eq_true rfl, Nat.le_of_ble_eq_true rfl⟩) ⟨x_blind, va_recv hK hP rfl li_v, x_pre hE hA hS hP hD⟩ rfl rfl hl.1 rfl (lv_room (Nat.le_of_ble_eq_true rfl)) d_C_fillDraft_18 ⟨Nat.le_of_ble_eq_true rfl, Nat.le_of_ble_eq_true rfl⟩) hS (fun r11 w10 H locs q9 hP hD hS => ?_)
        obtain ⟨rfl, rfl⟩ := q9
        have iv := x7 i y hy
        obtain ⟨k9, la9, ra9, c9, -⟩ := id iv
        refine va_castY hx hb hown (ht _ k_cl_C_43) (hE.2.2.2.2.2.2.2 _ k_ca_V_V) (va_recv hK hP rfl c9) d_C_fillDraft_21 ?_
        refine lv_aload_n hx hb d_C_fillDraft_24 rfl (lv_at hl 1 rfl) ?_
        refine va_get (D := xD G) (ci := 0) (C := R_C) (T := F_C) (N := 10) hx hb ht in_C hown hK hP 0 x1 rfl 7 (by decide) (ht _ k_fl_C_40) (fun _ h9 => h9) rfl d_C_fillDraft_25 ?_
        refine x_calli (va_runV (As := [.ref da]) (rest := []) ⟨hx, hb, hml, hown, ht⟩ (c_num l G A w9 (gV i) da y d9 iv ⟨kd, hd, y2, y5, y6⟩ (bR i y hy).1 (bR i y hy).2) (cwV 1 ht (TW_V k_ml_C_224 k_im_V_numberFor k_se_V_numberFor k_in_V k_code_V_numberFor) rfl rfl rfl hv_V_numberFor ⟨Nat.le_of_ble_eq_true rfl, Nat.le_of_ble_eq_true rfl⟩) ⟨x_blind, va_recv hK hP rfl c9, x_pre hE hA hS hP hD⟩ rfl rfl hl.1 rfl (lv_room (Nat.le_of_ble_eq_true rfl)) d_C_fillDraft_28 ⟨Nat.le_of_ble_eq_true rfl, Nat.le_of_ble_eq_true rfl⟩) hS (fun r14 w13 H locs q12 hP hD hS => ?_)
        obtain ⟨rfl, ⟨v, n1, rfl, n3⟩ | ⟨n1, rfl⟩⟩ := q12
        · refine lv_istore_n (lv' := [(2, .int (nI v)), (1, .int (nI i)), (0, .ref o)]) hx hb d_C_fillDraft_31 rfl hl (by decide) rfl (fun ls hl => ?_)
          refine lv_iload_n hx hb d_C_fillDraft_32 rfl (lv_at hl 0 rfl) ?_
          refine lv_iconst (v := (-1)) hx hb d_C_fillDraft_33 (by decide) ?_
          refine lv_icmp_ne (tgt := 39) hx hb d_C_fillDraft_34 (by decide) (fun c15 => ?_) (fun c15 => ?_)
          · refine lv_aload_n hx hb d_C_fillDraft_39 rfl (lv_at hl 2 rfl) ?_
            refine va_get (D := xD G) (ci := 0) (C := R_C) (T := F_C) (N := 10) hx hb ht in_C hown hK hP 0 x1 rfl 7 (by decide) (ht _ k_fl_C_40) (fun _ h9 => h9) rfl d_C_fillDraft_40 ?_
            refine lv_iload_n hx hb d_C_fillDraft_43 rfl (lv_at hl 1 rfl) ?_
            refine lv_iload_n hx hb d_C_fillDraft_44 rfl (lv_at hl 0 rfl) ?_
            refine x_iast hx hb hK hP hD hS y2 i rfl (by omega) (by omega) d_C_fillDraft_45 (fun H locs hP hD hS => ?_)
            have hP : va_P (xD G) CL (w9.set kd (da, aI G 60 (upd hd i (nI v)))) H := hP
            have hD : va_D A (w9.set kd (da, aI G 60 (upd hd i (nI v)))) := hD
            obtain ⟨w16, e_w16⟩ : ∃ zz : va_W, zz = w9.set kd (da, aI G 60 (upd hd i (nI v))) := ⟨_, rfl⟩
            rw [← e_w16] at hP hD
            have h17 : w16[0]? = some (o, .inr (0, [.ref z, .ref u, .ref lv, .ref le, .ref lk, .int (nI inp), .ref wa, .ref da, .int (nI wV), .int (nI wC)])) := by rw [e_w16]; exact w_ne (w_dif y2 x1 (by simp)) x1
            have h18 : w16[kd]? = some (da, aI G 60 (upd hd i (nI v))) := by rw [e_w16]; exact w_eq y2
            have r2 : rows2 G (w9.set kd (da, aI G 60 (upd hd i (nI v)))) wa da w (va_up d9 i v) := ⟨kw, kd, hw, upd hd i (nI v), y0, w_ne (by omega) y1, w_eq y2, y3, y4, fun j hj => by unfold upd va_up; split; rfl; exact y5 j hj, fun j hj => by unfold va_up; split; exact n3; exact y6 j hj⟩
            obtain ⟨hX2, kk2⟩ := CCx.setRow hX (by omega) y2 r2
            rw [← e_w16] at hX2 kk2
            refine lv_iinc (v := nI (i + 1)) (lv' := [(1, .int (nI (i + 1))), (2, .int (nI v)), (0, .ref o)]) hx hb d_C_fillDraft_46 hl (k := 1) rfl (n_inc _) (by decide) rfl (fun ls hl => ?_)
            refine lv_goto (tgt := 2) hx hb d_C_fillDraft_49 (by decide) ?_
            exact ih (i + 1) (by omega) (va_up d9 i v) w16 H locs ls (by rw [← he]; show _ = (match num (vAt V i) d9 with | none => (false, d9) | some v => fil V n (i + 1) (va_up d9 i v)); rw [vAt_of hy, n1]) ⟨_, _, _, _, _, _, _, _, hX2⟩ (kk.tr kk2) hP hD hS (lv_sub hl [0, 2] rfl)
          · exact absurd c15 (nI_m1 (by omega))
        · refine lv_istore_n (lv' := [(2, .int (-1)), (1, .int (nI i)), (0, .ref o)]) hx hb d_C_fillDraft_31 rfl hl (by decide) rfl (fun ls hl => ?_)
          refine lv_iload_n hx hb d_C_fillDraft_32 rfl (lv_at hl 0 rfl) ?_
          refine lv_iconst (v := (-1)) hx hb d_C_fillDraft_33 (by decide) ?_
          refine lv_icmp_ne (tgt := 39) hx hb d_C_fillDraft_34 (by decide) (fun c19 => ?_) (fun c19 => ?_)
          · exact absurd rfl c19
          · refine lv_iconst (v := (nI 0)) hx hb d_C_fillDraft_37 (by decide) ?_
            exact x_zret hx hb hr hlocks hS hP hD (Nat.le_of_ble_eq_true rfl) (Nat.le_of_ble_eq_true rfl) d_C_fillDraft_38 rfl (⟨d9, hR9, kk, Or.inr ⟨rfl, by rw [← he]; show (match num (vAt V i) d9 with | none => (false, d9) | some v => fil V n (i + 1) (va_up d9 i v)) = _; rw [vAt_of hy, n1]⟩⟩)
  exact loop V.length 0 (by omega) d ws s.heap [] ls rfl hR kp.rf hP hD hS hl
