/-! the public methods -/
def okI (V : List VV) (E : List EE) (K : List KK) (inp wV wC : Nat) : Prop := 1 ≤ V.length ∧ V.length ≤ 60 ∧ E.length ≤ 60 ∧ K.length ≤ 80 ∧ inp ≤ 60 ∧ wV ≤ V.length ∧ wC ≤ K.length ∧ (∀ (i : Nat) (x : VV), V[i]? = some x → x.1 ≤ 5 ∧ x.2.2.2 < 97) ∧ ∀ (i : Nat) (x : EE), E[i]? = some x → x.2 < V.length
def exS (kd : Nat) (V : List VV) (E : List EE) (K : List KK) (inp : Nat) (x1 x2 x3 : Int32) : List VV × List EE × List KK × Nat :=
  if kd = 1 then (V ++ [(1, zr, zr, 0)], E ++ [(unit V.length, V.length)], K, inp + 1) else ((mkSum kd E (V, K) x1 x2 x3).1.1, E ++ [((mkSum kd E (V, K) x1 x2 x3).2, 0)], (mkSum kd E (V, K) x1 x2 x3).1.2, inp)

set_option maxHeartbeats 4000000 in
set_option maxRecDepth 100000 in
theorem c_expression (l : Launch) (G : xG) (A : Nat → Prop) (ws : va_W) (hst : l.stackTraces = false) (o z u lv le lk : Nat) (V : List VV) (E : List EE) (K : List KK) (inp : Nat) (w d : Nat → Nat) (wV wC : Nat) (hR : CCs G ws o z u lv le lk V E K inp w d wV wC) (hI : okI V E K inp wV wC) (x0 x1 x2 x3 : Int32) : vx_Met l y_C_expression (cw_C_expression :: TW) { frames := 13, cells := 40, slots := 2000, locals := 338 } (va_Pc [.ref o, .int x0, .int x1, .int x2, .int x3] (x_P G A ws)) (qI G A (fun r w9 => r = nI E.length ∧ ∃ kq, x0 = nI kq ∧ wfd kq E.length x1 x2 x3 ∧ room kq V E K x1 x2 x3 ∧ CCs G w9 o z u lv le lk (exS kq V E K inp x1 x2 x3).1 (exS kq V E K inp x1 x2 x3).2.1 (exS kq V E K inp x1 x2 x3).2.2.1 (exS kq V E K inp x1 x2 x3).2.2.2 w d wV wC)) (qX G A (fun Ex w9 => CCs G w9 o z u lv le lk V E K inp w d wV wC ∧ ((Ex = "java/lang/IllegalArgumentException" ∧ ¬ wfx E.length x0 x1 x2 x3) ∨ (Ex = "java/lang/IllegalStateException" ∧ ∃ kq, x0 = nI kq ∧ wfd kq E.length x1 x2 x3 ∧ ¬ room kq V E K x1 x2 x3)))) 40 2000 A := by
  refine vx_ofW (cc := b_C_expression) (maxL := 5) (ret := (some .int)) (by decide) rfl ?_
  intro p e s m args below meth c s₁ B hml hno hv
  obtain ⟨rfl, hE, hA, hP, hD⟩ := hv
  have hx := B.exec
  have hb := B.bytes
  have hr := B.returns
  have ht : ∀ w ∈ TW, w.before _ s = true := fun w h => atoms_spec (ws := cw_C_expression :: TW) B.pre w (List.mem_cons_of_mem _ h)
  have hown : s.vm.findClass R_C = some m.cls := findClass_of_methodNamed B.named
  have hlocks := B.notSynchronized
  have hK := hE.1
  have hS : va_S A s.heap s.heap [] := va_S.rf
  have hl := lv_entry ([.ref o, .int x0, .int x1, .int x2, .int x3]) (n := 5) (Nat.le_of_ble_eq_true rfl)
  rw [lg_entry_eq]
  generalize (lg_sl ([.ref o, .int x0, .int x1, .int x2, .int x3]) ++ List.replicate (5 - (lg_sl ([.ref o, .int x0, .int x1, .int x2, .int x3])).length) Slot.unset).toArray = ls at hl ⊢
  have hl : lv_has ls 5 [(0, .ref o), (1, .int x0), (2, .int x1), (3, .int x2), (4, .int x3)] := hl
  obtain ⟨i1, i2, i3, i4, i5, i6, i7, i8, i9⟩ := id hI
  obtain ⟨wa0, da0, ho0⟩ := CCs.o hR
  refine lv_aload_n hx hb d_C_expression_0 rfl (lv_at hl 0 rfl) ?_
  refine lv_iload_n hx hb d_C_expression_1 rfl (lv_at hl 1 rfl) ?_
  refine lv_iload_n hx hb d_C_expression_2 rfl (lv_at hl 2 rfl) ?_
  refine lv_iload_n hx hb d_C_expression_3 rfl (lv_at hl 3 rfl) ?_
  refine lv_iload hx hb d_C_expression_4 (lv_at hl 4 rfl) ?_
  refine x_calli (va_runV (As := [.int x0, .int x1, .int x2, .int x3]) (rest := []) ⟨hx, hb, hml, hown, ht⟩ (c_wf l G A ws o z u lv le lk V E K inp w d wV wC hR i3 x0 x1 x2 x3) (cwV 4 ht (TW_V k_ml_C_52 k_im_C_isWellFormed k_se_C_isWellFormed k_in_C k_code_C_isWellFormed) rfl rfl rfl hv_C_isWellFormed ⟨Nat.le_of_ble_eq_true rfl, Nat.le_of_ble_eq_true rfl⟩) ⟨x_blind, va_recv hK hP rfl ho0, x_pre hE hA hS hP hD⟩ rfl rfl hl.1 rfl (lv_room (Nat.le_of_ble_eq_true rfl)) d_C_expression_6 ⟨Nat.le_of_ble_eq_true rfl, Nat.le_of_ble_eq_true rfl⟩) hS (fun r3 w2 H locs q1 hP hD hS => ?_)
  obtain ⟨rfl, ⟨rfl, hw⟩ | ⟨rfl, hw⟩⟩ := q1
  · refine x_if_ne hx hb 1 rfl (by omega) (tgt := 20) d_C_expression_9 (by decide) (fun c4 => ?_) (fun c4 => ?_)
    · obtain ⟨kd, rfl, hw⟩ := hw
      have k9 := hw.1
      refine lv_aload_n hx hb d_C_expression_20 rfl (lv_at hl 0 rfl) ?_
      refine lv_iload_n hx hb d_C_expression_21 rfl (lv_at hl 1 rfl) ?_
      refine lv_iload_n hx hb d_C_expression_22 rfl (lv_at hl 2 rfl) ?_
      refine lv_iload_n hx hb d_C_expression_23 rfl (lv_at hl 3 rfl) ?_
      refine lv_iload hx hb d_C_expression_24 (lv_at hl 4 rfl) ?_
      refine x_calli (va_runV (As := [.int (nI kd), .int x1, .int x2, .int x3]) (rest := []) ⟨hx, hb, hml, hown, ht⟩ (c_room l G A ws o z u lv le lk V E K inp w d wV wC hR i3 i2 i4 kd x1 x2 x3 hw) (cwV 4 ht (TW_V k_ml_C_59 k_im_C_hasRoomFor k_se_C_hasRoomFor k_in_C k_code_C_hasRoomFor) rfl rfl rfl hv_C_hasRoomFor ⟨Nat.le_of_ble_eq_true rfl, Nat.le_of_ble_eq_true rfl⟩) ⟨x_blind, va_recv hK hP rfl ho0, x_pre hE hA hS hP hD⟩ rfl rfl hl.1 rfl (lv_room (Nat.le_of_ble_eq_true rfl)) d_C_expression_26 ⟨Nat.le_of_ble_eq_true rfl, Nat.le_of_ble_eq_true rfl⟩) hS (fun r7 w6 H locs q5 hP hD hS => ?_)
      refine W.widen (k := 2) (n := 61) (Nat.le_of_ble_eq_true rfl) (Nat.le_of_ble_eq_true rfl) ?_
      obtain ⟨⟨rfl, hr9⟩ | ⟨rfl, hr9⟩, hR1, kk1⟩ := q5
      · refine x_if_ne hx hb 1 rfl (by omega) (tgt := 40) d_C_expression_29 (by decide) (fun c8 => ?_) (fun c8 => ?_)
        · obtain ⟨o1, o2, o3⟩ := id hr9
          obtain ⟨wa1, da1, ho1⟩ := CCs.o hR1
          refine lv_aload_n hx hb d_C_expression_40 rfl (lv_at hl 0 rfl) ?_
          refine va_get (D := xD G) (ci := 0) (C := R_C) (T := F_C) (N := 10) hx hb ht in_C hown hK hP 0 ho1 rfl 3 (by decide) (ht _ k_fl_C_30) (fun _ h9 => h9) rfl d_C_expression_41 ?_
          have fin : ∀ (V1 : List VV) (K1 : List KK) (inp1 : Nat) (x9 : EE) (r9 : Nat) (w9 : va_W) (H : Heap) (locs : List Loc), exS kd V E K inp x1 x2 x3 = (V1, E ++ [x9], K1, inp1) → isE G w9 r9 x9 → CCs G w9 o z u lv le lk V1 E K1 inp1 w d wV wC → va_P (xD G) CL w9 H → va_D A w9 → va_S A s.heap H locs → W p l e (headSpec (cw_C_expression :: TW) { frames := 13, cells := 40, slots := 2000, locals := 338 }).room s m ([.ref o, .int (nI kd), .int x1, .int x2, .int x3] : List Value).toArray below meth c H locs 27 1535 (vx_MQ below (qI G A (fun r w9 => r = nI E.length ∧ ∃ kq, (nI kd) = nI kq ∧ wfd kq E.length x1 x2 x3 ∧ room kq V E K x1 x2 x3 ∧ CCs G w9 o z u lv le lk (exS kq V E K inp x1 x2 x3).1 (exS kq V E K inp x1 x2 x3).2.1 (exS kq V E K inp x1 x2 x3).2.2.1 (exS kq V E K inp x1 x2 x3).2.2.2 w d wV wC)) (qX G A (fun Ex w9 => CCs G w9 o z u lv le lk V E K inp w d wV wC ∧ ((Ex = "java/lang/IllegalArgumentException" ∧ ¬ wfx E.length (nI kd) x1 x2 x3) ∨ (Ex = "java/lang/IllegalStateException" ∧ ∃ kq, (nI kd) = nI kq ∧ wfd kq E.length x1 x2 x3 ∧ ¬ room kq V E K x1 x2 x3)))) ([.ref o, .int (nI kd), .int x1, .int x2, .int x3] : List Value).toArray s 40 2000 A) (F0 m 73 ls [.ref r9, .ref le]) := by
            intro V1 K1 inp1 x9 r9 w9 H locs he hx9 hR2 hP hD hS
            obtain ⟨wa2, da2, kV2, kE2, kK2, gV2, gE2, gK2, hX2⟩ := id hR2
            have l5 := hX2.2.2.2.2.1
            have l8 := hX2.2.2.2.2.2.2.2.1
            obtain ⟨mo2, ae2, li2, -⟩ := id l5
            refine x_calli (va_runV (As := [.ref r9]) (rest := []) ⟨hx, hb, hml, hown, ht⟩ (c_add l G A w9 6 kE2 le E.length r9 gE2 l5 (by omega) (fun j hj => by obtain ⟨y, hy⟩ := V_get hj; exact (l8 j y hy).O) hx9.O) (cwV 1 ht (TW_V k_ml_C_48 k_im_A_add1 k_se_A_add1 k_in_A k_code_A_add1) rfl rfl rfl hv_A_add1 ⟨Nat.le_of_ble_eq_true rfl, Nat.le_of_ble_eq_true rfl⟩) ⟨x_blind, va_recv hK hP rfl li2, x_pre hE hA hS hP hD⟩ rfl rfl hl.1 rfl (lv_room (Nat.le_of_ble_eq_true rfl)) d_C_expression_73 ⟨Nat.le_of_ble_eq_true rfl, Nat.le_of_ble_eq_true rfl⟩) hS (fun r11 w10 H locs q9 hP hD hS => ?_)
            refine W.widen (k := 28) (n := 1685) (Nat.le_of_ble_eq_true rfl) (Nat.le_of_ble_eq_true rfl) ?_
            obtain ⟨ka', e1, e2, e3, e4⟩ := q9
            have kk := keep2.kp l5 e2
            have hX3 := CCx.addE (x := x9) hX2 e1 e2 e3 (hx9.kp kk)
            obtain ⟨mo3, ae3, li3, -⟩ := id e1
            refine lv_pop hx hb d_C_expression_76 rfl ?_
            refine lv_aload_n hx hb d_C_expression_77 rfl (lv_at hl 0 rfl) ?_
            refine va_get (D := xD G) (ci := 0) (C := R_C) (T := F_C) (N := 10) hx hb ht in_C hown hK hP 0 hX3.1 rfl 3 (by decide) (ht _ k_fl_C_30) (fun _ h9 => h9) rfl d_C_expression_78 ?_
            refine x_calli (va_runV (As := []) (rest := []) ⟨hx, hb, hml, hown, ht⟩ (c_A_size l G A w10 6 ka' le (E.length + 1) (va_up gE2 E.length r9) e1) (cwV 0 ht (TW_V k_ml_C_78 k_im_A_size k_se_A_size k_in_A k_code_A_size) rfl rfl rfl hv_A_size ⟨Nat.le_of_ble_eq_true rfl, Nat.le_of_ble_eq_true rfl⟩) ⟨x_blind, va_recv hK hP rfl li3, x_pre hE hA hS hP hD⟩ rfl rfl hl.1 rfl (lv_room (Nat.le_of_ble_eq_true rfl)) d_C_expression_81 ⟨Nat.le_of_ble_eq_true rfl, Nat.le_of_ble_eq_true rfl⟩) hS (fun r14 w13 H locs q12 hP hD hS => ?_)
            obtain ⟨rfl, rfl⟩ := q12
            refine lv_iconst (v := (nI 1)) hx hb d_C_expression_84 (by decide) ?_
            refine lv_isub hx hb d_C_expression_85 ?_
            refine x_top (nI ((E.length + 1) - 1)) (pk_sub (by omega)) ?_
            refine vx_ret ?_
            exact x_iret hx hb hr hlocks hS hP hD (Nat.le_of_ble_eq_true rfl) (Nat.le_of_ble_eq_true rfl) d_C_expression_86 (⟨by rw [Nat.add_sub_cancel], kd, rfl, hw, hr9, by rw [he]; exact ⟨_, _, _, _, _, _, _, _, hX3⟩⟩)
          refine lv_iload_n hx hb d_C_expression_44 rfl (lv_at hl 1 rfl) ?_
          refine lv_iconst (v := (nI 1)) hx hb d_C_expression_45 (by decide) ?_
          refine x_ne hx hb kd 1 rfl rfl (by omega) (by omega) (tgt := 56) d_C_expression_46 (by decide) (fun c15 => ?_) (fun c15 => ?_)
          · rw [if_neg c15] at o2
            refine va_new (ci := 3) (fs := [.null, .int 0]) (C := R_E) (T := F_E) (N := 2) hx hb ht in_E ft_E fo_E hown (ht _ k_cl_C_69) (ht _ k_new_E) (ht _ k_in_E) hK hP hD hS hA rfl (fun j hj => by rcases (show j = 0 ∨ j = 1 by omega) with rfl | rfl <;> rfl) (Nat.le_of_ble_eq_true rfl) (Nat.le_of_ble_eq_true rfl) d_C_expression_56 (fun ea H hP hD hS => ?_)
            refine W.widen (k := 3) (n := 63) (Nat.le_of_ble_eq_true rfl) (Nat.le_of_ble_eq_true rfl) ?_
            have hP : va_P (xD G) CL (w6 ++ [(ea, .inr (3, [.null, .int 0]))]) H := hP
            have hD : va_D A (w6 ++ [(ea, .inr (3, [.null, .int 0]))]) := hD
            obtain ⟨w16, e_w16⟩ : ∃ zz : va_W, zz = w6 ++ [(ea, .inr (3, [.null, .int 0]))] := ⟨_, rfl⟩
            rw [← e_w16] at hP hD
            have h17 : w16[0]? = some (o, .inr (0, [.ref z, .ref u, .ref lv, .ref le, .ref lk, .int (nI inp), .ref wa1, .ref da1, .int (nI wV), .int (nI wC)])) := by rw [e_w16]; exact w_app ho1
            have h18 : w16[w6.length]? = some (ea, .inr (3, [.null, .int 0])) := by rw [e_w16]; exact w_new0
            have hR2 := hR1.app (n := [(ea, .inr (3, [.null, .int 0]))])
            rw [← e_w16] at hR2
            refine lv_dup hx hb d_C_expression_59 rfl ?_
            refine lv_aload_n hx hb d_C_expression_60 rfl (lv_at hl 0 rfl) ?_
            refine lv_iload_n hx hb d_C_expression_61 rfl (lv_at hl 1 rfl) ?_
            refine lv_iload_n hx hb d_C_expression_62 rfl (lv_at hl 2 rfl) ?_
            refine lv_iload_n hx hb d_C_expression_63 rfl (lv_at hl 3 rfl) ?_
            refine lv_iload hx hb d_C_expression_64 (lv_at hl 4 rfl) ?_
            refine x_callr (va_runV (As := [.int (nI kd), .int x1, .int x2, .int x3]) (rest := [.ref ea, .ref ea, .ref le]) ⟨hx, hb, hml, hown, ht⟩ (c_msum l G A w16 o z u lv le lk V E K inp w d wV wC hR2 i3 kd x1 x2 x3 hw o2 o3) (cwV 4 ht (TW_V k_ml_C_71 k_im_C_makeSum k_se_C_makeSum k_in_C k_code_C_makeSum) rfl rfl rfl hv_C_makeSum ⟨Nat.le_of_ble_eq_true rfl, Nat.le_of_ble_eq_true rfl⟩) ⟨x_blind, va_recv hK hP rfl h17, x_pre hE hA hS hP hD⟩ rfl rfl hl.1 rfl (lv_room (Nat.le_of_ble_eq_true rfl)) d_C_expression_66 ⟨Nat.le_of_ble_eq_true rfl, Nat.le_of_ble_eq_true rfl⟩) hS (fun r21 w20 H locs q19 hP hD hS => ?_)
            refine W.widen (k := 27) (n := 1535) (Nat.le_of_ble_eq_true rfl) (Nat.le_of_ble_eq_true rfl) ?_
            obtain ⟨iS, hR3, kk3⟩ := q19
            have he4 := kk3 _ _ _ h18 (hard_o (Or.inr (Or.inr (Or.inl rfl))))
            refine lv_iconst (v := (nI 0)) hx hb d_C_expression_69 (by decide) ?_
            refine x_callv (va_runI (As := [.ref r21, .int (nI 0)]) (rest := [.ref ea, .ref le]) ⟨hx, hb, hml, hown, ht⟩ (c_E_init l G A w20 w6.length ea r21 (nI 0) he4) (cwI 2 ht (TW_good k_code_E_init) rfl rfl rfl (ht _ k_in_E) (ht _ k_ml_C_75) (ht _ k_im_E_init) rfl hv_E_init.2 ⟨Nat.le_of_ble_eq_true rfl, Nat.le_of_ble_eq_true rfl⟩) ⟨x_blind, x_pre hE hA hS hP hD⟩ rfl rfl hl.1 rfl (lv_room (Nat.le_of_ble_eq_true rfl)) d_C_expression_70 ⟨Nat.le_of_ble_eq_true rfl, Nat.le_of_ble_eq_true rfl⟩) hS (fun w23 H locs q22 hP hD hS => ?_)
            have hR5 := CCs.setE hR3 he4 (.inr (3, [.ref r21, .int (nI 0)]))
            rw [← q22] at hR5
            have hh5 : w23[w6.length]? = some (ea, .inr (3, [.ref r21, .int (nI 0)])) := by rw [q22]; exact w_eq he4
            have iS5 : isS G w23 r21 (mkSum kd E (V, K) x1 x2 x3).2 := by rw [q22]; exact iS.setE he4
            exact fin _ _ _ ((mkSum kd E (V, K) x1 x2 x3).2, 0) ea w23 H locs (by unfold exS; rw [if_neg c15]) ⟨_, _, hh5, iS5⟩ hR5 hP hD hS
          · have o4 : V.length < 60 := by rw [if_pos c15] at o2; omega
            refine lv_aload_n hx hb d_C_expression_49 rfl (lv_at hl 0 rfl) ?_
            refine x_callr (va_runV (As := []) (rest := [.ref le]) ⟨hx, hb, hml, hown, ht⟩ (c_minput l G A w6 o z u lv le lk V E K inp w d wV wC hR1 o4 (by omega)) (cwV 0 ht (TW_V k_ml_C_65 k_im_C_makeInput k_se_C_makeInput k_in_C k_code_C_makeInput) rfl rfl rfl hv_C_makeInput ⟨Nat.le_of_ble_eq_true rfl, Nat.le_of_ble_eq_true rfl⟩) ⟨x_blind, va_recv hK hP rfl ho1, x_pre hE hA hS hP hD⟩ rfl rfl hl.1 rfl (lv_room (Nat.le_of_ble_eq_true rfl)) d_C_expression_50 ⟨Nat.le_of_ble_eq_true rfl, Nat.le_of_ble_eq_true rfl⟩) hS (fun r26 w25 H locs q24 hP hD hS => ?_)
            refine W.widen (k := 7) (n := 278) (Nat.le_of_ble_eq_true rfl) (Nat.le_of_ble_eq_true rfl) ?_
            obtain ⟨hx9, hR2, kk2⟩ := q24
            refine lv_goto (tgt := 73) hx hb d_C_expression_53 (by decide) ?_
            refine W.widen (k := 27) (n := 1535) (Nat.le_of_ble_eq_true rfl) (Nat.le_of_ble_eq_true rfl) ?_
            exact fin _ _ _ (unit V.length, V.length) r26 w25 H locs (by unfold exS; rw [if_pos c15]) hx9 hR2 hP hD hS
        · exact False.elim (by omega)
      · refine x_if_ne hx hb 0 rfl (by omega) (tgt := 40) d_C_expression_29 (by decide) (fun c27 => ?_) (fun c27 => ?_)
        · exact False.elim (by omega)
        · exact vx_throw0 (own := R_C) (cls := "java/lang/IllegalStateException") (names := ["java/lang/RuntimeException", "java/lang/Exception"]) hx hb hst hown (by decide) (by decide) (ht _ k_cl_C_62) (ht _ k_in_IllegalStateException) (x_hat ht hE.2.2.2.2.2.2.2 at_ISE) hg_ISE hE.2.2.2.2.2.1 hE.2.2.2.2.2.2.1 hS (hl.1.trans hml.symm) d_C_expression_32 d_C_expression_35 d_C_expression_36 d_C_expression_39 (fun x h => (hno x h).elim) (Nat.le_of_ble_eq_true rfl) (Nat.le_of_ble_eq_true rfl) (Nat.le_of_ble_eq_true rfl) (Nat.le_of_ble_eq_true rfl) hlocks (x_thrown hS hP hD (⟨hR1, Or.inr ⟨rfl, kd, rfl, hw, hr9⟩⟩)) hS.2.2 (Nat.le_of_ble_eq_true rfl) (Nat.le_of_ble_eq_true rfl)
    · exact False.elim (by omega)
  · refine x_if_ne hx hb 0 rfl (by omega) (tgt := 20) d_C_expression_9 (by decide) (fun c28 => ?_) (fun c28 => ?_)
    · exact False.elim (by omega)
    · exact vx_throw0 (own := R_C) (cls := "java/lang/IllegalArgumentException") (names := ["java/lang/RuntimeException", "java/lang/Exception"]) hx hb hst hown (by decide) (by decide) (ht _ k_cl_C_56) (ht _ k_in_IllegalArgumentException) (x_hat ht hE.2.2.2.2.2.2.2 at_IAE) hg_IAE hE.2.2.2.2.2.1 hE.2.2.2.2.2.2.1 hS (hl.1.trans hml.symm) d_C_expression_12 d_C_expression_15 d_C_expression_16 d_C_expression_19 (fun x h => (hno x h).elim) (Nat.le_of_ble_eq_true rfl) (Nat.le_of_ble_eq_true rfl) (Nat.le_of_ble_eq_true rfl) (Nat.le_of_ble_eq_true rfl) hlocks (x_thrown hS hP hD (⟨hR, Or.inl ⟨rfl, hw⟩⟩)) hS.2.2 (Nat.le_of_ble_eq_true rfl) (Nat.le_of_ble_eq_true rfl)
