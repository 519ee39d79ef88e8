set_option maxHeartbeats 4000000 in
set_option maxRecDepth 100000 in
theorem c_C_init (l : Launch) (G : xG) (A : Nat → Prop) (ws : va_W) (o : Nat) (hw : ws = [(o, .inr (0, [.null, .null, .null, .null, .null, .int 0, .null, .null, .int 0, .int 0]))]) : Met l y_C_init (cw_C_init :: TW) { frames := 9, cells := 11, slots := 405, locals := 234 } (va_Pc [.ref o] (x_P G A ws)) (qV G A (fun w9 => ∃ z u lv le lk, CCs G w9 o z u lv le lk [(0, zr, zr, 0)] [] [] 0 zr zr 0 0)) 11 405 A := by
  refine Met.ofW (cc := b_C_init) (maxL := 1) (ret := none) (by decide) rfl ?_
  intro p e s m args below meth c s₁ B hml hv
  obtain ⟨rfl, hE, hA, hP, hD⟩ := hv
  have hx := B.exec
  have hb := B.bytes
  have hr := B.returns
  have ht : ∀ w ∈ TW, w.before _ s = true := fun w h => atoms_spec (ws := cw_C_init :: TW) B.pre w (List.mem_cons_of_mem _ h)
  have hown : s.vm.findClass R_C = some m.cls := findClass_of_methodNamed B.named
  have hlocks := B.notSynchronized
  have hin : meth.name = "<init>" := (name_of_methodNamed B.named B.method).1
  have hK := hE.1
  have hS : va_S A s.heap s.heap [] := va_S.rf
  have hl := lv_entry ([.ref o]) (n := 1) (Nat.le_of_ble_eq_true rfl)
  rw [lg_entry_eq]
  generalize (lg_sl ([.ref o]) ++ List.replicate (1 - (lg_sl ([.ref o])).length) Slot.unset).toArray = ls at hl ⊢
  have hl : lv_has ls 1 [(0, .ref o)] := hl
  have E_ws : ws = [(o, .inr (0, [.null, .null, .null, .null, .null, .int 0, .null, .null, .int 0, .int 0]))] := hw
  have h1 : ws[0]? = some (o, .inr (0, [.null, .null, .null, .null, .null, .int 0, .null, .null, .int 0, .int 0])) := by rw [E_ws]; rfl
  refine lv_aload_n hx hb d_C_init_0 rfl (lv_at hl 0 rfl) ?_
  refine W.objInit hx hb hown (ht _ k_ml_C_3) (ht _ k_im_OJ_init) (ht _ k_code_OJ_init) rfl (by rw [hml]; exact hl.1) rfl d_C_init_1 (Nat.le_of_ble_eq_true rfl) (Nat.le_of_ble_eq_true rfl) ?_
  refine W.eq (g2 := F0 m 4 ls []) rfl ?_
  refine lv_aload_n hx hb d_C_init_4 rfl (lv_at hl 0 rfl) ?_
  refine va_new (ci := 1) (fs := [.null]) (C := R_S) (T := F_S) (N := 1) hx hb ht in_S ft_S fo_S hown (ht _ k_cl_C_9) (ht _ k_new_S) (ht _ k_in_S) hK hP hD hS hA rfl (fun j hj => by rcases (show j = 0 by omega) with rfl <;> rfl) (Nat.le_of_ble_eq_true rfl) (Nat.le_of_ble_eq_true rfl) d_C_init_5 (fun z H hP hD hS => ?_)
  refine W.widen (k := 1) (n := 1) (Nat.le_of_ble_eq_true rfl) (Nat.le_of_ble_eq_true rfl) ?_
  have hP : va_P (xD G) CL (ws ++ [(z, .inr (1, [.null]))]) H := hP
  have hD : va_D A (ws ++ [(z, .inr (1, [.null]))]) := hD
  obtain ⟨w2, e_w2⟩ : ∃ zz : va_W, zz = ws ++ [(z, .inr (1, [.null]))] := ⟨_, rfl⟩
  rw [← e_w2] at hP hD
  have h3 : w2[ws.length]? = some (z, .inr (1, [.null])) := by rw [e_w2]; exact w_new0
  refine lv_dup hx hb d_C_init_8 rfl ?_
  refine x_callv (va_runI (As := []) (rest := [.ref z, .ref o]) ⟨hx, hb, hml, hown, ht⟩ (c_S_init l G A w2 ws z e_w2) (cwI 0 ht (TW_good k_code_S_init) rfl rfl rfl (ht _ k_in_S) (ht _ k_ml_C_11) (ht _ k_im_S_init) rfl hv_S_init.2 ⟨Nat.le_of_ble_eq_true rfl, Nat.le_of_ble_eq_true rfl⟩) ⟨x_blind, x_pre hE hA hS hP hD⟩ rfl rfl hl.1 rfl (lv_room (Nat.le_of_ble_eq_true rfl)) d_C_init_9 ⟨Nat.le_of_ble_eq_true rfl, Nat.le_of_ble_eq_true rfl⟩) hS (fun w5 H locs q4 hP hD hS => ?_)
  refine W.widen (k := 2) (n := 61) (Nat.le_of_ble_eq_true rfl) (Nat.le_of_ble_eq_true rfl) ?_
  obtain ⟨cz, e9⟩ := q4
  have E_w5 : w5 = [(o, .inr (0, [.null, .null, .null, .null, .null, .int 0, .null, .null, .int 0, .int 0])), (z, .inr (1, [.ref cz])), (cz, aI G 60 (fun _ => 0))] := by rw [e9, E_ws]; rfl
  have h6 : w5[0]? = some (o, .inr (0, [.null, .null, .null, .null, .null, .int 0, .null, .null, .int 0, .int 0])) := by rw [E_w5]; rfl
  refine va_putF (D := xD G) (ci := 0) (v := .ref z) (ty := .object "ConstraintCompiler$Sum") (C := R_C) (T := F_C) (N := 10) hx hb ht in_C ft_C fo_C nm_C hown hK hP hD hS 0 h6 rfl 0 (by decide) (ht _ k_fl_C_12) (fun _ h9 => h9) rfl hin rfl (by decide +kernel) rfl rfl (Nat.le_of_ble_eq_true rfl) d_C_init_12 (fun H locs hP hD hS => ?_)
  have hP : va_P (xD G) CL (w5.set 0 (o, .inr (0, [.ref z, .null, .null, .null, .null, .int 0, .null, .null, .int 0, .int 0]))) H := hP
  have hD : va_D A (w5.set 0 (o, .inr (0, [.ref z, .null, .null, .null, .null, .int 0, .null, .null, .int 0, .int 0]))) := hD
  obtain ⟨w7, e_w7⟩ : ∃ zz : va_W, zz = w5.set 0 (o, .inr (0, [.ref z, .null, .null, .null, .null, .int 0, .null, .null, .int 0, .int 0])) := ⟨_, rfl⟩
  rw [← e_w7] at hP hD
  have h8 : w7[0]? = some (o, .inr (0, [.ref z, .null, .null, .null, .null, .int 0, .null, .null, .int 0, .int 0])) := by rw [e_w7]; exact w_eq h6
  have E_w7 : w7 = [(o, .inr (0, [.ref z, .null, .null, .null, .null, .int 0, .null, .null, .int 0, .int 0])), (z, .inr (1, [.ref cz])), (cz, aI G 60 (fun _ => 0))] := by rw [e_w7, E_w5]; rfl
  have h9 : w7[0]? = some (o, .inr (0, [.ref z, .null, .null, .null, .null, .int 0, .null, .null, .int 0, .int 0])) := by rw [E_w7]; rfl
  refine lv_aload_n hx hb d_C_init_15 rfl (lv_at hl 0 rfl) ?_
  refine lv_iconst (v := (nI 0)) hx hb d_C_init_16 (by decide) ?_
  refine x_callr (va_runS (As := [.int (nI 0)]) (rest := [.ref o]) ⟨hx, hb, hml, hown, ht⟩ (c_S_of l G A w7 0 (by decide)) (va_cwS 1 ht (TW_S k_ml_C_16 k_st_S_ofVariable k_in_S k_code_S_ofVariable) rfl rfl rfl hv_S_ofVariable.2 ⟨Nat.le_of_ble_eq_true rfl, Nat.le_of_ble_eq_true rfl⟩) ⟨x_blind, x_pre hE hA hS hP hD⟩ rfl rfl hl.1 rfl (lv_room (Nat.le_of_ble_eq_true rfl)) d_C_init_17 ⟨Nat.le_of_ble_eq_true rfl, Nat.le_of_ble_eq_true rfl⟩) hS (fun u w11 H locs q10 hP hD hS => ?_)
  refine W.widen (k := 4) (n := 122) (Nat.le_of_ble_eq_true rfl) (Nat.le_of_ble_eq_true rfl) ?_
  obtain ⟨cu, hu, e9, hu9⟩ := q10
  have E_w11 : w11 = [(o, .inr (0, [.ref z, .null, .null, .null, .null, .int 0, .null, .null, .int 0, .int 0])), (z, .inr (1, [.ref cz])), (cz, aI G 60 (fun _ => 0)), (u, .inr (1, [.ref cu])), (cu, aI G 60 hu)] := by rw [e9, E_w7]; rfl
  have h12 : w11[0]? = some (o, .inr (0, [.ref z, .null, .null, .null, .null, .int 0, .null, .null, .int 0, .int 0])) := by rw [E_w11]; rfl
  refine va_putF (D := xD G) (ci := 0) (v := .ref u) (ty := .object "ConstraintCompiler$Sum") (C := R_C) (T := F_C) (N := 10) hx hb ht in_C ft_C fo_C nm_C hown hK hP hD hS 0 h12 rfl 1 (by decide) (ht _ k_fl_C_20) (fun _ h9 => h9) rfl hin rfl (by decide +kernel) rfl rfl (Nat.le_of_ble_eq_true rfl) d_C_init_20 (fun H locs hP hD hS => ?_)
  have hP : va_P (xD G) CL (w11.set 0 (o, .inr (0, [.ref z, .ref u, .null, .null, .null, .int 0, .null, .null, .int 0, .int 0]))) H := hP
  have hD : va_D A (w11.set 0 (o, .inr (0, [.ref z, .ref u, .null, .null, .null, .int 0, .null, .null, .int 0, .int 0]))) := hD
  obtain ⟨w13, e_w13⟩ : ∃ zz : va_W, zz = w11.set 0 (o, .inr (0, [.ref z, .ref u, .null, .null, .null, .int 0, .null, .null, .int 0, .int 0])) := ⟨_, rfl⟩
  rw [← e_w13] at hP hD
  have h14 : w13[0]? = some (o, .inr (0, [.ref z, .ref u, .null, .null, .null, .int 0, .null, .null, .int 0, .int 0])) := by rw [e_w13]; exact w_eq h12
  have E_w13 : w13 = [(o, .inr (0, [.ref z, .ref u, .null, .null, .null, .int 0, .null, .null, .int 0, .int 0])), (z, .inr (1, [.ref cz])), (cz, aI G 60 (fun _ => 0)), (u, .inr (1, [.ref cu])), (cu, aI G 60 hu)] := by rw [e_w13, E_w11]; rfl
  have h15 : w13[0]? = some (o, .inr (0, [.ref z, .ref u, .null, .null, .null, .int 0, .null, .null, .int 0, .int 0])) := by rw [E_w13]; rfl
  refine lv_aload_n hx hb d_C_init_23 rfl (lv_at hl 0 rfl) ?_
  refine va_new (ci := 6) (fs := [.int 0, .null, .int 0]) (C := R_A) (T := F_A) (N := 3) hx hb ht in_A ft_A fo_A hown (ht _ k_cl_C_23) (ht _ k_new_A) (ht _ k_in_A) hK hP hD hS hA rfl (fun j hj => by rcases (show j = 0 ∨ j = 1 ∨ j = 2 by omega) with rfl | rfl | rfl <;> rfl) (Nat.le_of_ble_eq_true rfl) (Nat.le_of_ble_eq_true rfl) d_C_init_24 (fun lv H hP hD hS => ?_)
  refine W.widen (k := 5) (n := 125) (Nat.le_of_ble_eq_true rfl) (Nat.le_of_ble_eq_true rfl) ?_
  have hP : va_P (xD G) CL (w13 ++ [(lv, .inr (6, [.int 0, .null, .int 0]))]) H := hP
  have hD : va_D A (w13 ++ [(lv, .inr (6, [.int 0, .null, .int 0]))]) := hD
  obtain ⟨w16, e_w16⟩ : ∃ zz : va_W, zz = w13 ++ [(lv, .inr (6, [.int 0, .null, .int 0]))] := ⟨_, rfl⟩
  rw [← e_w16] at hP hD
  have h17 : w16[w13.length]? = some (lv, .inr (6, [.int 0, .null, .int 0])) := by rw [e_w16]; exact w_new0
  refine lv_dup hx hb d_C_init_27 rfl ?_
  refine x_callv (va_runI (As := []) (rest := [.ref lv, .ref o]) ⟨hx, hb, hml, hown, ht⟩ (c_A_init l G A w16 w13 lv e_w16) (cwI 0 ht (TW_good k_code_A_init) rfl rfl rfl (ht _ k_in_A) (ht _ k_ml_C_25) (ht _ k_im_A_init) rfl hv_A_init.2 ⟨Nat.le_of_ble_eq_true rfl, Nat.le_of_ble_eq_true rfl⟩) ⟨x_blind, x_pre hE hA hS hP hD⟩ rfl rfl hl.1 rfl (lv_room (Nat.le_of_ble_eq_true rfl)) d_C_init_28 ⟨Nat.le_of_ble_eq_true rfl, Nat.le_of_ble_eq_true rfl⟩) hS (fun w19 H locs q18 hP hD hS => ?_)
  have E_w19 : w19 = [(o, .inr (0, [.ref z, .ref u, .null, .null, .null, .int 0, .null, .null, .int 0, .int 0])), (z, .inr (1, [.ref cz])), (cz, aI G 60 (fun _ => 0)), (u, .inr (1, [.ref cu])), (cu, aI G 60 hu), (lv, .inr (6, [.int (nI 0), .ref (xZ G), .int 0]))] := by rw [q18, E_w13]; rfl
  have h20 : w19[0]? = some (o, .inr (0, [.ref z, .ref u, .null, .null, .null, .int 0, .null, .null, .int 0, .int 0])) := by rw [E_w19]; rfl
  refine va_putF (D := xD G) (ci := 0) (v := .ref lv) (ty := .object "java/util/ArrayList") (C := R_C) (T := F_C) (N := 10) hx hb ht in_C ft_C fo_C nm_C hown hK hP hD hS 0 h20 rfl 2 (by decide) (ht _ k_fl_C_26) (fun _ h9 => h9) rfl hin rfl (by decide +kernel) rfl rfl (Nat.le_of_ble_eq_true rfl) d_C_init_31 (fun H locs hP hD hS => ?_)
  have hP : va_P (xD G) CL (w19.set 0 (o, .inr (0, [.ref z, .ref u, .ref lv, .null, .null, .int 0, .null, .null, .int 0, .int 0]))) H := hP
  have hD : va_D A (w19.set 0 (o, .inr (0, [.ref z, .ref u, .ref lv, .null, .null, .int 0, .null, .null, .int 0, .int 0]))) := hD
  obtain ⟨w21, e_w21⟩ : ∃ zz : va_W, zz = w19.set 0 (o, .inr (0, [.ref z, .ref u, .ref lv, .null, .null, .int 0, .null, .null, .int 0, .int 0])) := ⟨_, rfl⟩
  rw [← e_w21] at hP hD
  have h22 : w21[0]? = some (o, .inr (0, [.ref z, .ref u, .ref lv, .null, .null, .int 0, .null, .null, .int 0, .int 0])) := by rw [e_w21]; exact w_eq h20
  have E_w21 : w21 = [(o, .inr (0, [.ref z, .ref u, .ref lv, .null, .null, .int 0, .null, .null, .int 0, .int 0])), (z, .inr (1, [.ref cz])), (cz, aI G 60 (fun _ => 0)), (u, .inr (1, [.ref cu])), (cu, aI G 60 hu), (lv, .inr (6, [.int (nI 0), .ref (xZ G), .int 0]))] := by rw [e_w21, E_w19]; rfl
  have h23 : w21[0]? = some (o, .inr (0, [.ref z, .ref u, .ref lv, .null, .null, .int 0, .null, .null, .int 0, .int 0])) := by rw [E_w21]; rfl
  refine lv_aload_n hx hb d_C_init_34 rfl (lv_at hl 0 rfl) ?_
  refine va_new (ci := 6) (fs := [.int 0, .null, .int 0]) (C := R_A) (T := F_A) (N := 3) hx hb ht in_A ft_A fo_A hown (ht _ k_cl_C_23) (ht _ k_new_A) (ht _ k_in_A) hK hP hD hS hA rfl (fun j hj => by rcases (show j = 0 ∨ j = 1 ∨ j = 2 by omega) with rfl | rfl | rfl <;> rfl) (Nat.le_of_ble_eq_true rfl) (Nat.le_of_ble_eq_true rfl) d_C_init_35 (fun le H hP hD hS => ?_)
  refine W.widen (k := 6) (n := 128) (Nat.le_of_ble_eq_true rfl) (Nat.le_of_ble_eq_true rfl) ?_
  have hP : va_P (xD G) CL (w21 ++ [(le, .inr (6, [.int 0, .null, .int 0]))]) H := hP
  have hD : va_D A (w21 ++ [(le, .inr (6, [.int 0, .null, .int 0]))]) := hD
  obtain ⟨w24, e_w24⟩ : ∃ zz : va_W, zz = w21 ++ [(le, .inr (6, [.int 0, .null, .int 0]))] := ⟨_, rfl⟩
  rw [← e_w24] at hP hD
  have h25 : w24[w21.length]? = some (le, .inr (6, [.int 0, .null, .int 0])) := by rw [e_w24]; exact w_new0
  refine lv_dup hx hb d_C_init_38 rfl ?_
  refine x_callv (va_runI (As := []) (rest := [.ref le, .ref o]) ⟨hx, hb, hml, hown, ht⟩ (c_A_init l G A w24 w21 le e_w24) (cwI 0 ht (TW_good k_code_A_init) rfl rfl rfl (ht _ k_in_A) (ht _ k_ml_C_25) (ht _ k_im_A_init) rfl hv_A_init.2 ⟨Nat.le_of_ble_eq_true rfl, Nat.le_of_ble_eq_true rfl⟩) ⟨x_blind, x_pre hE hA hS hP hD⟩ rfl rfl hl.1 rfl (lv_room (Nat.le_of_ble_eq_true rfl)) d_C_init_39 ⟨Nat.le_of_ble_eq_true rfl, Nat.le_of_ble_eq_true rfl⟩) hS (fun w27 H locs q26 hP hD hS => ?_)
  have E_w27 : w27 = [(o, .inr (0, [.ref z, .ref u, .ref lv, .null, .null, .int 0, .null, .null, .int 0, .int 0])), (z, .inr (1, [.ref cz])), (cz, aI G 60 (fun _ => 0)), (u, .inr (1, [.ref cu])), (cu, aI G 60 hu), (lv, .inr (6, [.int (nI 0), .ref (xZ G), .int 0])), (le, .inr (6, [.int (nI 0), .ref (xZ G), .int 0]))] := by rw [q26, E_w21]; rfl
  have h28 : w27[0]? = some (o, .inr (0, [.ref z, .ref u, .ref lv, .null, .null, .int 0, .null, .null, .int 0, .int 0])) := by rw [E_w27]; rfl
  refine va_putF (D := xD G) (ci := 0) (v := .ref le) (ty := .object "java/util/ArrayList") (C := R_C) (T := F_C) (N := 10) hx hb ht in_C ft_C fo_C nm_C hown hK hP hD hS 0 h28 rfl 3 (by decide) (ht _ k_fl_C_30) (fun _ h9 => h9) rfl hin rfl (by decide +kernel) rfl rfl (Nat.le_of_ble_eq_true rfl) d_C_init_42 (fun H locs hP hD hS => ?_)
  have hP : va_P (xD G) CL (w27.set 0 (o, .inr (0, [.ref z, .ref u, .ref lv, .ref le, .null, .int 0, .null, .null, .int 0, .int 0]))) H := hP
  have hD : va_D A (w27.set 0 (o, .inr (0, [.ref z, .ref u, .ref lv, .ref le, .null, .int 0, .null, .null, .int 0, .int 0]))) := hD
  obtain ⟨w29, e_w29⟩ : ∃ zz : va_W, zz = w27.set 0 (o, .inr (0, [.ref z, .ref u, .ref lv, .ref le, .null, .int 0, .null, .null, .int 0, .int 0])) := ⟨_, rfl⟩
  rw [← e_w29] at hP hD
  have h30 : w29[0]? = some (o, .inr (0, [.ref z, .ref u, .ref lv, .ref le, .null, .int 0, .null, .null, .int 0, .int 0])) := by rw [e_w29]; exact w_eq h28
  have E_w29 : w29 = [(o, .inr (0, [.ref z, .ref u, .ref lv, .ref le, .null, .int 0, .null, .null, .int 0, .int 0])), (z, .inr (1, [.ref cz])), (cz, aI G 60 (fun _ => 0)), (u, .inr (1, [.ref cu])), (cu, aI G 60 hu), (lv, .inr (6, [.int (nI 0), .ref (xZ G), .int 0])), (le, .inr (6, [.int (nI 0), .ref (xZ G), .int 0]))] := by rw [e_w29, E_w27]; rfl
  have h31 : w29[0]? = some (o, .inr (0, [.ref z, .ref u, .ref lv, .ref le, .null, .int 0, .null, .null, .int 0, .int 0])) := by rw [E_w29]; rfl
  refine lv_aload_n hx hb d_C_init_45 rfl (lv_at hl 0 rfl) ?_
  refine va_new (ci := 6) (fs := [.int 0, .null, .int 0]) (C := R_A) (T := F_A) (N := 3) hx hb ht in_A ft_A fo_A hown (ht _ k_cl_C_23) (ht _ k_new_A) (ht _ k_in_A) hK hP hD hS hA rfl (fun j hj => by rcases (show j = 0 ∨ j = 1 ∨ j = 2 by omega) with rfl | rfl | rfl <;> rfl) (Nat.le_of_ble_eq_true rfl) (Nat.le_of_ble_eq_true rfl) d_C_init_46 (fun lk H hP hD hS => ?_)
  refine W.widen (k := 7) (n := 131) (Nat.le_of_ble_eq_true rfl) (Nat.le_of_ble_eq_true rfl) ?_
  have hP : va_P (xD G) CL (w29 ++ [(lk, .inr (6, [.int 0, .null, .int 0]))]) H := hP
  have hD : va_D A (w29 ++ [(lk, .inr (6, [.int 0, .null, .int 0]))]) := hD
  obtain ⟨w32, e_w32⟩ : ∃ zz : va_W, zz = w29 ++ [(lk, .inr (6, [.int 0, .null, .int 0]))] := ⟨_, rfl⟩
  rw [← e_w32] at hP hD
  have h33 : w32[w29.length]? = some (lk, .inr (6, [.int 0, .null, .int 0])) := by rw [e_w32]; exact w_new0
  refine lv_dup hx hb d_C_init_49 rfl ?_
  refine x_callv (va_runI (As := []) (rest := [.ref lk, .ref o]) ⟨hx, hb, hml, hown, ht⟩ (c_A_init l G A w32 w29 lk e_w32) (cwI 0 ht (TW_good k_code_A_init) rfl rfl rfl (ht _ k_in_A) (ht _ k_ml_C_25) (ht _ k_im_A_init) rfl hv_A_init.2 ⟨Nat.le_of_ble_eq_true rfl, Nat.le_of_ble_eq_true rfl⟩) ⟨x_blind, x_pre hE hA hS hP hD⟩ rfl rfl hl.1 rfl (lv_room (Nat.le_of_ble_eq_true rfl)) d_C_init_50 ⟨Nat.le_of_ble_eq_true rfl, Nat.le_of_ble_eq_true rfl⟩) hS (fun w35 H locs q34 hP hD hS => ?_)
  have E_w35 : w35 = [(o, .inr (0, [.ref z, .ref u, .ref lv, .ref le, .null, .int 0, .null, .null, .int 0, .int 0])), (z, .inr (1, [.ref cz])), (cz, aI G 60 (fun _ => 0)), (u, .inr (1, [.ref cu])), (cu, aI G 60 hu), (lv, .inr (6, [.int (nI 0), .ref (xZ G), .int 0])), (le, .inr (6, [.int (nI 0), .ref (xZ G), .int 0])), (lk, .inr (6, [.int (nI 0), .ref (xZ G), .int 0]))] := by rw [q34, E_w29]; rfl
  have h36 : w35[0]? = some (o, .inr (0, [.ref z, .ref u, .ref lv, .ref le, .null, .int 0, .null, .null, .int 0, .int 0])) := by rw [E_w35]; rfl
  refine va_putF (D := xD G) (ci := 0) (v := .ref lk) (ty := .object "java/util/ArrayList") (C := R_C) (T := F_C) (N := 10) hx hb ht in_C ft_C fo_C nm_C hown hK hP hD hS 0 h36 rfl 4 (by decide) (ht _ k_fl_C_33) (fun _ h9 => h9) rfl hin rfl (by decide +kernel) rfl rfl (Nat.le_of_ble_eq_true rfl) d_C_init_53 (fun H locs hP hD hS => ?_)
  have hP : va_P (xD G) CL (w35.set 0 (o, .inr (0, [.ref z, .ref u, .ref lv, .ref le, .ref lk, .int 0, .null, .null, .int 0, .int 0]))) H := hP
  have hD : va_D A (w35.set 0 (o, .inr (0, [.ref z, .ref u, .ref lv, .ref le, .ref lk, .int 0, .null, .null, .int 0, .int 0]))) := hD
  obtain ⟨w37, e_w37⟩ : ∃ zz : va_W, zz = w35.set 0 (o, .inr (0, [.ref z, .ref u, .ref lv, .ref le, .ref lk, .int 0, .null, .null, .int 0, .int 0])) := ⟨_, rfl⟩
  rw [← e_w37] at hP hD
  have h38 : w37[0]? = some (o, .inr (0, [.ref z, .ref u, .ref lv, .ref le, .ref lk, .int 0, .null, .null, .int 0, .int 0])) := by rw [e_w37]; exact w_eq h36
  have E_w37 : w37 = [(o, .inr (0, [.ref z, .ref u, .ref lv, .ref le, .ref lk, .int 0, .null, .null, .int 0, .int 0])), (z, .inr (1, [.ref cz])), (cz, aI G 60 (fun _ => 0)), (u, .inr (1, [.ref cu])), (cu, aI G 60 hu), (lv, .inr (6, [.int (nI 0), .ref (xZ G), .int 0])), (le, .inr (6, [.int (nI 0), .ref (xZ G), .int 0])), (lk, .inr (6, [.int (nI 0), .ref (xZ G), .int 0]))] := by rw [e_w37, E_w35]; rfl
  have h39 : w37[0]? = some (o, .inr (0, [.ref z, .ref u, .ref lv, .ref le, .ref lk, .int 0, .null, .null, .int 0, .int 0])) := by rw [E_w37]; rfl
  refine lv_aload_n hx hb d_C_init_56 rfl (lv_at hl 0 rfl) ?_
  refine lv_bipush (v := (nI 60)) hx hb d_C_init_57 (by decide) ?_
  refine x_newa hx hb (ht _ k_ac_int) hK hP hD hS hA 60 rfl (by decide) (Nat.le_of_ble_eq_true rfl) (Nat.le_of_ble_eq_true rfl) d_C_init_59 (fun wa H hP hD hS => ?_)
  refine W.widen (k := 8) (n := 191) (Nat.le_of_ble_eq_true rfl) (Nat.le_of_ble_eq_true rfl) ?_
  have hP : va_P (xD G) CL (w37 ++ [(wa, aI G 60 (fun _ => 0))]) H := hP
  have hD : va_D A (w37 ++ [(wa, aI G 60 (fun _ => 0))]) := hD
  obtain ⟨w40, e_w40⟩ : ∃ zz : va_W, zz = w37 ++ [(wa, aI G 60 (fun _ => 0))] := ⟨_, rfl⟩
  rw [← e_w40] at hP hD
  have h41 : w40[w37.length]? = some (wa, aI G 60 (fun _ => 0)) := by rw [e_w40]; exact w_new0
  have E_w40 : w40 = [(o, .inr (0, [.ref z, .ref u, .ref lv, .ref le, .ref lk, .int 0, .null, .null, .int 0, .int 0])), (z, .inr (1, [.ref cz])), (cz, aI G 60 (fun _ => 0)), (u, .inr (1, [.ref cu])), (cu, aI G 60 hu), (lv, .inr (6, [.int (nI 0), .ref (xZ G), .int 0])), (le, .inr (6, [.int (nI 0), .ref (xZ G), .int 0])), (lk, .inr (6, [.int (nI 0), .ref (xZ G), .int 0])), (wa, aI G 60 (fun _ => 0))] := by rw [e_w40, E_w37]; rfl
  have h42 : w40[0]? = some (o, .inr (0, [.ref z, .ref u, .ref lv, .ref le, .ref lk, .int 0, .null, .null, .int 0, .int 0])) := by rw [E_w40]; rfl
  refine va_put (D := xD G) (ci := 0) (v := .ref wa) (ty := .array .int) (C := R_C) (T := F_C) (N := 10) hx hb ht in_C ft_C fo_C nm_C hown hK hP hD hS 0 h42 rfl 6 (by decide) (ht _ k_fl_C_36) (fun _ h9 => h9) rfl (by decide +kernel) rfl rfl (Nat.le_of_ble_eq_true rfl) d_C_init_61 (fun H locs hP hD hS => ?_)
  have hP : va_P (xD G) CL (w40.set 0 (o, .inr (0, [.ref z, .ref u, .ref lv, .ref le, .ref lk, .int 0, .ref wa, .null, .int 0, .int 0]))) H := hP
  have hD : va_D A (w40.set 0 (o, .inr (0, [.ref z, .ref u, .ref lv, .ref le, .ref lk, .int 0, .ref wa, .null, .int 0, .int 0]))) := hD
  obtain ⟨w43, e_w43⟩ : ∃ zz : va_W, zz = w40.set 0 (o, .inr (0, [.ref z, .ref u, .ref lv, .ref le, .ref lk, .int 0, .ref wa, .null, .int 0, .int 0])) := ⟨_, rfl⟩
  rw [← e_w43] at hP hD
  have h44 : w43[0]? = some (o, .inr (0, [.ref z, .ref u, .ref lv, .ref le, .ref lk, .int 0, .ref wa, .null, .int 0, .int 0])) := by rw [e_w43]; exact w_eq h42
  have E_w43 : w43 = [(o, .inr (0, [.ref z, .ref u, .ref lv, .ref le, .ref lk, .int 0, .ref wa, .null, .int 0, .int 0])), (z, .inr (1, [.ref cz])), (cz, aI G 60 (fun _ => 0)), (u, .inr (1, [.ref cu])), (cu, aI G 60 hu), (lv, .inr (6, [.int (nI 0), .ref (xZ G), .int 0])), (le, .inr (6, [.int (nI 0), .ref (xZ G), .int 0])), (lk, .inr (6, [.int (nI 0), .ref (xZ G), .int 0])), (wa, aI G 60 (fun _ => 0))] := by rw [e_w43, E_w40]; rfl
  have h45 : w43[0]? = some (o, .inr (0, [.ref z, .ref u, .ref lv, .ref le, .ref lk, .int 0, .ref wa, .null, .int 0, .int 0])) := by rw [E_w43]; rfl
  refine lv_aload_n hx hb d_C_init_64 rfl (lv_at hl 0 rfl) ?_
  refine lv_bipush (v := (nI 60)) hx hb d_C_init_65 (by decide) ?_
  refine x_newa hx hb (ht _ k_ac_int) hK hP hD hS hA 60 rfl (by decide) (Nat.le_of_ble_eq_true rfl) (Nat.le_of_ble_eq_true rfl) d_C_init_67 (fun da H hP hD hS => ?_)
  refine W.widen (k := 9) (n := 251) (Nat.le_of_ble_eq_true rfl) (Nat.le_of_ble_eq_true rfl) ?_
  have hP : va_P (xD G) CL (w43 ++ [(da, aI G 60 (fun _ => 0))]) H := hP
  have hD : va_D A (w43 ++ [(da, aI G 60 (fun _ => 0))]) := hD
  obtain ⟨w46, e_w46⟩ : ∃ zz : va_W, zz = w43 ++ [(da, aI G 60 (fun _ => 0))] := ⟨_, rfl⟩
  rw [← e_w46] at hP hD
  have h47 : w46[w43.length]? = some (da, aI G 60 (fun _ => 0)) := by rw [e_w46]; exact w_new0
  have E_w46 : w46 = [(o, .inr (0, [.ref z, .ref u, .ref lv, .ref le, .ref lk, .int 0, .ref wa, .null, .int 0, .int 0])), (z, .inr (1, [.ref cz])), (cz, aI G 60 (fun _ => 0)), (u, .inr (1, [.ref cu])), (cu, aI G 60 hu), (lv, .inr (6, [.int (nI 0), .ref (xZ G), .int 0])), (le, .inr (6, [.int (nI 0), .ref (xZ G), .int 0])), (lk, .inr (6, [.int (nI 0), .ref (xZ G), .int 0])), (wa, aI G 60 (fun _ => 0)), (da, aI G 60 (fun _ => 0))] := by rw [e_w46, E_w43]; rfl
  have h48 : w46[0]? = some (o, .inr (0, [.ref z, .ref u, .ref lv, .ref le, .ref lk, .int 0, .ref wa, .null, .int 0, .int 0])) := by rw [E_w46]; rfl
  refine va_put (D := xD G) (ci := 0) (v := .ref da) (ty := .array .int) (C := R_C) (T := F_C) (N := 10) hx hb ht in_C ft_C fo_C nm_C hown hK hP hD hS 0 h48 rfl 7 (by decide) (ht _ k_fl_C_40) (fun _ h9 => h9) rfl (by decide +kernel) rfl rfl (Nat.le_of_ble_eq_true rfl) d_C_init_69 (fun H locs hP hD hS => ?_)
  have hP : va_P (xD G) CL (w46.set 0 (o, .inr (0, [.ref z, .ref u, .ref lv, .ref le, .ref lk, .int 0, .ref wa, .ref da, .int 0, .int 0]))) H := hP
  have hD : va_D A (w46.set 0 (o, .inr (0, [.ref z, .ref u, .ref lv, .ref le, .ref lk, .int 0, .ref wa, .ref da, .int 0, .int 0]))) := hD
  obtain ⟨w49, e_w49⟩ : ∃ zz : va_W, zz = w46.set 0 (o, .inr (0, [.ref z, .ref u, .ref lv, .ref le, .ref lk, .int 0, .ref wa, .ref da, .int 0, .int 0])) := ⟨_, rfl⟩
  rw [← e_w49] at hP hD
  have h50 : w49[0]? = some (o, .inr (0, [.ref z, .ref u, .ref lv, .ref le, .ref lk, .int 0, .ref wa, .ref da, .int 0, .int 0])) := by rw [e_w49]; exact w_eq h48
  have E_w49 : w49 = [(o, .inr (0, [.ref z, .ref u, .ref lv, .ref le, .ref lk, .int 0, .ref wa, .ref da, .int 0, .int 0])), (z, .inr (1, [.ref cz])), (cz, aI G 60 (fun _ => 0)), (u, .inr (1, [.ref cu])), (cu, aI G 60 hu), (lv, .inr (6, [.int (nI 0), .ref (xZ G), .int 0])), (le, .inr (6, [.int (nI 0), .ref (xZ G), .int 0])), (lk, .inr (6, [.int (nI 0), .ref (xZ G), .int 0])), (wa, aI G 60 (fun _ => 0)), (da, aI G 60 (fun _ => 0))] := by rw [e_w49, E_w46]; rfl
  have h51 : w49[0]? = some (o, .inr (0, [.ref z, .ref u, .ref lv, .ref le, .ref lk, .int 0, .ref wa, .ref da, .int 0, .int 0])) := by rw [E_w49]; rfl
  refine lv_aload_n hx hb d_C_init_72 rfl (lv_at hl 0 rfl) ?_
  refine va_get (D := xD G) (ci := 0) (C := R_C) (T := F_C) (N := 10) hx hb ht in_C hown hK hP 0 h51 rfl 2 (by decide) (ht _ k_fl_C_26) (fun _ h9 => h9) rfl d_C_init_73 ?_
  refine va_new (ci := 2) (fs := [.int 0, .null, .null, .int 0]) (C := R_V) (T := F_V) (N := 4) hx hb ht in_V ft_V fo_V hown (ht _ k_cl_C_43) (ht _ k_new_V) (ht _ k_in_V) hK hP hD hS hA rfl (fun j hj => by rcases (show j = 0 ∨ j = 1 ∨ j = 2 ∨ j = 3 by omega) with rfl | rfl | rfl | rfl <;> rfl) (Nat.le_of_ble_eq_true rfl) (Nat.le_of_ble_eq_true rfl) d_C_init_76 (fun va H hP hD hS => ?_)
  refine W.widen (k := 10) (n := 255) (Nat.le_of_ble_eq_true rfl) (Nat.le_of_ble_eq_true rfl) ?_
  have hP : va_P (xD G) CL (w49 ++ [(va, .inr (2, [.int 0, .null, .null, .int 0]))]) H := hP
  have hD : va_D A (w49 ++ [(va, .inr (2, [.int 0, .null, .null, .int 0]))]) := hD
  obtain ⟨w52, e_w52⟩ : ∃ zz : va_W, zz = w49 ++ [(va, .inr (2, [.int 0, .null, .null, .int 0]))] := ⟨_, rfl⟩
  rw [← e_w52] at hP hD
  have h53 : w52[w49.length]? = some (va, .inr (2, [.int 0, .null, .null, .int 0])) := by rw [e_w52]; exact w_new0
  have E_w52 : w52 = [(o, .inr (0, [.ref z, .ref u, .ref lv, .ref le, .ref lk, .int 0, .ref wa, .ref da, .int 0, .int 0])), (z, .inr (1, [.ref cz])), (cz, aI G 60 (fun _ => 0)), (u, .inr (1, [.ref cu])), (cu, aI G 60 hu), (lv, .inr (6, [.int (nI 0), .ref (xZ G), .int 0])), (le, .inr (6, [.int (nI 0), .ref (xZ G), .int 0])), (lk, .inr (6, [.int (nI 0), .ref (xZ G), .int 0])), (wa, aI G 60 (fun _ => 0)), (da, aI G 60 (fun _ => 0)), (va, .inr (2, [.int 0, .null, .null, .int 0]))] := by rw [e_w52, E_w49]; rfl
  have h54 : w52[0]? = some (o, .inr (0, [.ref z, .ref u, .ref lv, .ref le, .ref lk, .int 0, .ref wa, .ref da, .int 0, .int 0])) := by rw [E_w52]; rfl
  have hv0 : w52[10]? = some (va, .inr (2, [.int 0, .null, .null, .int 0])) := by rw [E_w52]; rfl
  refine lv_dup hx hb d_C_init_79 rfl ?_
  refine lv_iconst (v := (nI 0)) hx hb d_C_init_80 (by decide) ?_
  refine lv_aload_n hx hb d_C_init_81 rfl (lv_at hl 0 rfl) ?_
  refine va_get (D := xD G) (ci := 0) (C := R_C) (T := F_C) (N := 10) hx hb ht in_C hown hK hP 0 h54 rfl 0 (by decide) (ht _ k_fl_C_12) (fun _ h9 => h9) rfl d_C_init_82 ?_
  refine lv_aload_n hx hb d_C_init_85 rfl (lv_at hl 0 rfl) ?_
  refine va_get (D := xD G) (ci := 0) (C := R_C) (T := F_C) (N := 10) hx hb ht in_C hown hK hP 0 h54 rfl 0 (by decide) (ht _ k_fl_C_12) (fun _ h9 => h9) rfl d_C_init_86 ?_
  refine x_callv (va_runI (As := [.int (nI 0), .ref z, .ref z]) (rest := [.ref va, .ref lv]) ⟨hx, hb, hml, hown, ht⟩ (c_V_init l G A w52 10 va (nI 0) z z hv0) (cwI 3 ht (TW_good k_code_V_init) rfl rfl rfl (ht _ k_in_V) (ht _ k_ml_C_45) (ht _ k_im_V_init) rfl hv_V_init.2 ⟨Nat.le_of_ble_eq_true rfl, Nat.le_of_ble_eq_true rfl⟩) ⟨x_blind, x_pre hE hA hS hP hD⟩ rfl rfl hl.1 rfl (lv_room (Nat.le_of_ble_eq_true rfl)) d_C_init_89 ⟨Nat.le_of_ble_eq_true rfl, Nat.le_of_ble_eq_true rfl⟩) hS (fun w56 H locs q55 hP hD hS => ?_)
  have E_w56 : w56 = [(o, .inr (0, [.ref z, .ref u, .ref lv, .ref le, .ref lk, .int 0, .ref wa, .ref da, .int 0, .int 0])), (z, .inr (1, [.ref cz])), (cz, aI G 60 (fun _ => 0)), (u, .inr (1, [.ref cu])), (cu, aI G 60 hu), (lv, .inr (6, [.int (nI 0), .ref (xZ G), .int 0])), (le, .inr (6, [.int (nI 0), .ref (xZ G), .int 0])), (lk, .inr (6, [.int (nI 0), .ref (xZ G), .int 0])), (wa, aI G 60 (fun _ => 0)), (da, aI G 60 (fun _ => 0)), (va, .inr (2, [.int (nI 0), .ref z, .ref z, .int 0]))] := by rw [q55, E_w52]; rfl
  have h57 : w56[0]? = some (o, .inr (0, [.ref z, .ref u, .ref lv, .ref le, .ref lk, .int 0, .ref wa, .ref da, .int 0, .int 0])) := by rw [E_w56]; rfl
  have g2 : w56[1]? = some (z, .inr (1, [.ref cz])) := by rw [E_w56]; rfl
  have g3 : w56[2]? = some (cz, aI G 60 (fun _ => 0)) := by rw [E_w56]; rfl
  have g4 : w56[3]? = some (u, .inr (1, [.ref cu])) := by rw [E_w56]; rfl
  have g5 : w56[4]? = some (cu, aI G 60 hu) := by rw [E_w56]; rfl
  have gl5 : w56[5]? = some (lv, .inr (6, [.int (nI 0), .ref (xZ G), .int (nI 0)])) := by rw [E_w56]; rfl
  have gl6 : w56[6]? = some (le, .inr (6, [.int (nI 0), .ref (xZ G), .int (nI 0)])) := by rw [E_w56]; rfl
  have gl7 : w56[7]? = some (lk, .inr (6, [.int (nI 0), .ref (xZ G), .int (nI 0)])) := by rw [E_w56]; rfl
  have gr8 : w56[8]? = some (wa, aI G 60 (fun _ => 0)) := by rw [E_w56]; rfl
  have gr9 : w56[9]? = some (da, aI G 60 (fun _ => 0)) := by rw [E_w56]; rfl
  have gv10 : w56[10]? = some (va, .inr (2, [.int (nI 0), .ref z, .ref z, .int (nI 0)])) := by rw [E_w56]; rfl
  have iz : isS G w56 z zr := ⟨1, 2, cz, _, g2, g3, by decide, by decide, fun _ _ => rfl, fun _ _ => (by decide : 0 < 97)⟩
  have iu : isS G w56 u (unit 0) := ⟨3, 4, cu, _, g4, g5, by decide, by decide, hu9, fun j _ => unit_lt 0 j⟩
  have iv : isV G w56 va (0, zr, zr, 0) := ⟨10, z, z, gv10, iz, iz⟩
  have l5 : isL G w56 5 none lv 0 (fun _ => 0) := ⟨_, _, gl5, Or.inl ⟨rfl, rfl, rfl⟩⟩
  have hX : CCx G w56 o z u lv le lk wa da none none none (fun _ => 0) (fun _ => 0) (fun _ => 0) [] [] [] 0 zr zr 0 0 := ⟨by rw [E_w56]; rfl, iz, iu, l5, ⟨_, _, gl6, Or.inl ⟨rfl, rfl, rfl⟩⟩, ⟨_, _, gl7, Or.inl ⟨rfl, rfl, rfl⟩⟩, (fun _ _ q => by simp at q), (fun _ _ q => by simp at q), (fun _ _ q => by simp at q), ⟨(fun _ q => by simp at q), (fun _ q => by simp at q)⟩, fun i j h => absurd h (Nat.not_lt_zero _), ⟨8, 9, _, _, Or.inl ⟨rfl, rfl⟩, gr8, gr9, fun _ _ => rfl, fun _ _ => (by decide : 0 < 97), fun _ _ => rfl, fun _ _ => (by decide : 0 < 97)⟩, by rw [E_w56]; exact Nat.le_of_ble_eq_true rfl⟩
  refine x_calli (va_runV (As := [.ref va]) (rest := []) ⟨hx, hb, hml, hown, ht⟩ (c_add l G A w56 5 none lv 0 va (fun _ => 0) l5 (by decide) (fun j hj => absurd hj (Nat.not_lt_zero _)) iv.O) (cwV 1 ht (TW_V k_ml_C_48 k_im_A_add1 k_se_A_add1 k_in_A k_code_A_add1) rfl rfl rfl hv_A_add1 ⟨Nat.le_of_ble_eq_true rfl, Nat.le_of_ble_eq_true rfl⟩) ⟨x_blind, va_recv hK hP rfl gl5, x_pre hE hA hS hP hD⟩ rfl rfl hl.1 rfl (lv_room (Nat.le_of_ble_eq_true rfl)) d_C_init_92 ⟨Nat.le_of_ble_eq_true rfl, Nat.le_of_ble_eq_true rfl⟩) hS (fun r60 w59 H locs q58 hP hD hS => ?_)
  refine W.widen (k := 11) (n := 405) (Nat.le_of_ble_eq_true rfl) (Nat.le_of_ble_eq_true rfl) ?_
  obtain ⟨ka', e1, e2, e3, e4⟩ := q58
  have hX3 := CCx.addV (x := (0, zr, zr, 0)) hX e1 e2 e3 (iv.kp (keep2.kp l5 e2)) (fun i h => absurd h (Nat.not_lt_zero _))
  refine lv_pop hx hb d_C_init_95 rfl ?_
  exact x_vret hx hb hr hlocks hS hP hD (Nat.le_of_ble_eq_true rfl) (Nat.le_of_ble_eq_true rfl) d_C_init_96 (⟨z, u, lv, le, lk, _, _, _, _, _, _, _, _, hX3⟩)
