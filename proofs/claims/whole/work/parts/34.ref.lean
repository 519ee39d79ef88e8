set_option maxHeartbeats 4000000 in
set_option maxRecDepth 100000 in
theorem m_expression (l : Launch) (G : xG) (A : Nat → Prop) (ws : va_W) (a : MA) (st : MS) (hw : ws = mW G a st) (V : List VV) (E : List EE) (K : List KK) (inp : Nat) (w : Nat → Nat) (wV wC : Nat) (hM : MRel st V E K inp w wV wC) (hI : okI V E K inp wV wC) (x0 x1 x2 x3 : Int32) : Met l y_M_expression (cw_M_expression :: TW) { frames := 7, cells := 0, slots := 0, locals := 182 } (va_Pc [.ref a.m, .int x0, .int x1, .int x2, .int x3] (x_P G A ws)) (qI G A (fun r w9 => ∃ st' : MS, w9 = mW G a st' ∧ ((st'.th = 0 ∧ r = nI E.length ∧ ∃ kq, x0 = nI kq ∧ wfd kq E.length x1 x2 x3 ∧ room kq V E K x1 x2 x3 ∧ MRel st' (exS kq V E K inp x1 x2 x3).1 (exS kq V E K inp x1 x2 x3).2.1 (exS kq V E K inp x1 x2 x3).2.2.1 (exS kq V E K inp x1 x2 x3).2.2.2 w wV wC) ∨ (st'.th = 1 ∧ (¬ wfx E.length x0 x1 x2 x3) ∧ MRel st' V E K inp w wV wC) ∨ (st'.th = 2 ∧ (∃ kq, x0 = nI kq ∧ wfd kq E.length x1 x2 x3 ∧ ¬ room kq V E K x1 x2 x3) ∧ MRel st' V E K inp w wV wC)))) 0 0 A := by
  refine Met.ofW (cc := b_M_expression) (maxL := 7) (ret := (some .int)) (by decide) rfl ?_
  intro p e s m args below meth c s₁ B hml hv
  obtain ⟨rfl, hE, hA, hP, hD⟩ := hv
  have hx := B.exec
  have hb := B.bytes
  have hr := B.returns
  have ht : ∀ w ∈ TW, w.before _ s = true := fun w h => atoms_spec (ws := cw_M_expression :: TW) B.pre w (List.mem_cons_of_mem _ h)
  have hown : s.vm.findClass R_M = some m.cls := findClass_of_methodNamed B.named
  have hlocks := B.notSynchronized
  have hK := hE.1
  have hS : va_S A s.heap s.heap [] := va_S.rf
  have hl := lv_entry ([.ref a.m, .int x0, .int x1, .int x2, .int x3]) (n := 7) (Nat.le_of_ble_eq_true rfl)
  rw [lg_entry_eq]
  generalize (lg_sl ([.ref a.m, .int x0, .int x1, .int x2, .int x3]) ++ List.replicate (7 - (lg_sl ([.ref a.m, .int x0, .int x1, .int x2, .int x3])).length) Slot.unset).toArray = ls at hl ⊢
  have hl : lv_has ls 7 [(0, .ref a.m), (1, .int x0), (2, .int x1), (3, .int x2), (4, .int x3)] := hl
  obtain ⟨i1, i2, i3, i4, i5, i6, i7, i8, i9⟩ := id hI
  have hco := hM.1.1
  have hva := hM.2.1.1
  have hex := hM.2.2.1.1
  have hS9 : ∀ e9 j, e9 < E.length → j < 60 → st.S (60 * e9 + j) = sE E e9 j := fun e9 j h1 h2 => (hM.2.2.1.2.1 e9 j h1 h2).1
  have hS8 : ∀ e9 j, e9 < E.length → j < 60 → sE E e9 j < 97 := fun e9 j h1 h2 => (hM.2.2.1.2.1 e9 j h1 h2).2.1
  have hS6 : ∀ e9, e9 < E.length → ∀ j, j < 60 → st.S (60 * e9 + j) < 97 := fun e9 h1 j h2 => by rw [hS9 e9 j h1 h2]; exact hS8 e9 j h1 h2
  have hS7 : ∀ e9 j, e9 < E.length → V.length ≤ j → j < 60 → sE E e9 j = 0 := fun e9 j h1 h3 h2 => (hM.2.2.1.2.1 e9 j h1 h2).2.2 h3
  have h1 : ws[0]? = some (a.m, .inr (5, [.int (nI st.th), .ref a.aS, .ref a.aK, .ref a.aI, .int (nI st.ex), .ref a.aH, .ref a.aF, .ref a.aG, .int (nI st.va), .ref a.aR, .int (nI st.co), .ref a.aL, .ref a.aT, .ref a.aO, .ref a.aB, .ref a.aW, .int (nI st.sv), .int (nI st.kn), .int (nI st.kc)])) := by rw [hw]; rfl
  refine lv_aload_n hx hb d_M_expression_0 rfl (lv_at hl 0 rfl) ?_
  refine lv_iconst (v := (nI 0)) hx hb d_M_expression_1 (by decide) ?_
  refine va_put (D := xD G) (ci := 5) (v := .int (nI 0)) (ty := .int) (C := R_M) (T := F_M) (N := 19) hx hb ht in_M ft_M fo_M nm_M hown hK hP hD hS 0 h1 rfl 0 (by decide) (ht _ k_fl_M_50) (fun _ h9 => h9) rfl (by decide +kernel) rfl rfl (Nat.le_of_ble_eq_true rfl) d_M_expression_2 (fun H locs hP hD hS => ?_)
  have hP : va_P (xD G) CL (ws.set 0 (a.m, .inr (5, [.int (nI 0), .ref a.aS, .ref a.aK, .ref a.aI, .int (nI st.ex), .ref a.aH, .ref a.aF, .ref a.aG, .int (nI st.va), .ref a.aR, .int (nI st.co), .ref a.aL, .ref a.aT, .ref a.aO, .ref a.aB, .ref a.aW, .int (nI st.sv), .int (nI st.kn), .int (nI st.kc)]))) H := hP
  have hD : va_D A (ws.set 0 (a.m, .inr (5, [.int (nI 0), .ref a.aS, .ref a.aK, .ref a.aI, .int (nI st.ex), .ref a.aH, .ref a.aF, .ref a.aG, .int (nI st.va), .ref a.aR, .int (nI st.co), .ref a.aL, .ref a.aT, .ref a.aO, .ref a.aB, .ref a.aW, .int (nI st.sv), .int (nI st.kn), .int (nI st.kc)]))) := hD
  obtain ⟨w2, e_w2⟩ : ∃ zz : va_W, zz = ws.set 0 (a.m, .inr (5, [.int (nI 0), .ref a.aS, .ref a.aK, .ref a.aI, .int (nI st.ex), .ref a.aH, .ref a.aF, .ref a.aG, .int (nI st.va), .ref a.aR, .int (nI st.co), .ref a.aL, .ref a.aT, .ref a.aO, .ref a.aB, .ref a.aW, .int (nI st.sv), .int (nI st.kn), .int (nI st.kc)])) := ⟨_, rfl⟩
  rw [← e_w2] at hP hD
  have h3 : w2[0]? = some (a.m, .inr (5, [.int (nI 0), .ref a.aS, .ref a.aK, .ref a.aI, .int (nI st.ex), .ref a.aH, .ref a.aF, .ref a.aG, .int (nI st.va), .ref a.aR, .int (nI st.co), .ref a.aL, .ref a.aT, .ref a.aO, .ref a.aB, .ref a.aW, .int (nI st.sv), .int (nI st.kn), .int (nI st.kc)])) := by rw [e_w2]; exact w_eq h1
  have E4 : w2 = mW G a (⟨0, st.ex, st.va, st.co, st.sv, st.kn, st.kc, st.S, st.Kd, st.In, st.Hw, st.Fr, st.Gn, st.R, st.L, st.T, st.O, st.B, st.W⟩ : MS) := by rw [e_w2, hw]; rfl
  have h5 : w2[0]? = some (a.m, .inr (5, [.int (nI 0), .ref a.aS, .ref a.aK, .ref a.aI, .int (nI st.ex), .ref a.aH, .ref a.aF, .ref a.aG, .int (nI st.va), .ref a.aR, .int (nI st.co), .ref a.aL, .ref a.aT, .ref a.aO, .ref a.aB, .ref a.aW, .int (nI st.sv), .int (nI st.kn), .int (nI st.kc)])) := by rw [E4]; rfl
  refine lv_aload_n hx hb d_M_expression_5 rfl (lv_at hl 0 rfl) ?_
  refine lv_iload_n hx hb d_M_expression_6 rfl (lv_at hl 1 rfl) ?_
  refine lv_iload_n hx hb d_M_expression_7 rfl (lv_at hl 2 rfl) ?_
  refine lv_iload_n hx hb d_M_expression_8 rfl (lv_at hl 3 rfl) ?_
  refine lv_iload hx hb d_M_expression_9 (lv_at hl 4 rfl) ?_
  refine x_calli (va_runV (As := [.int x0, .int x1, .int x2, .int x3]) (rest := []) ⟨hx, hb, hml, hown, ht⟩ (c_M_fits l G A w2 a (⟨0, st.ex, st.va, st.co, st.sv, st.kn, st.kc, st.S, st.Kd, st.In, st.Hw, st.Fr, st.Gn, st.R, st.L, st.T, st.O, st.B, st.W⟩ : MS) E4 (show st.ex ≤ 60 by omega) x0 x1 x2 x3) (cwV 4 ht (TW_V k_ml_M_113 k_im_M_fits k_se_M_fits k_in_M k_code_M_fits) rfl rfl rfl hv_M_fits ⟨Nat.le_of_ble_eq_true rfl, Nat.le_of_ble_eq_true rfl⟩) ⟨x_blind, va_recv hK hP rfl h5, x_pre hE hA hS hP hD⟩ rfl rfl hl.1 rfl (lv_room (Nat.le_of_ble_eq_true rfl)) d_M_expression_11 ⟨Nat.le_of_ble_eq_true rfl, Nat.le_of_ble_eq_true rfl⟩) hS (fun r8 w7 H locs q6 hP hD hS => ?_)
  obtain ⟨rfl, ⟨rfl, hf⟩ | ⟨rfl, hf⟩⟩ := q6
  · refine x_if_ne hx hb 1 rfl (by decide) (tgt := 23) d_M_expression_14 (by decide) (fun c9 => ?_) (fun c9 => ?_)
    rotate_left
    · exact False.elim (by omega)
    obtain ⟨kd, rfl, hf⟩ := hf
    have hf : wfd kd E.length x1 x2 x3 := by rw [← hex]; exact hf
    have k9 := hf.1
    have n9 := nd_le (E := E) hf
    refine lv_aload_n hx hb d_M_expression_23 rfl (lv_at hl 0 rfl) ?_
    refine lv_iload_n hx hb d_M_expression_24 rfl (lv_at hl 1 rfl) ?_
    refine lv_iload_n hx hb d_M_expression_25 rfl (lv_at hl 2 rfl) ?_
    refine lv_iload_n hx hb d_M_expression_26 rfl (lv_at hl 3 rfl) ?_
    refine lv_iload hx hb d_M_expression_27 (lv_at hl 4 rfl) ?_
    refine x_calli (va_runV (As := [.int (nI kd), .int x1, .int x2, .int x3]) (rest := []) ⟨hx, hb, hml, hown, ht⟩ (c_M_needs l G A w2 a (⟨0, st.ex, st.va, st.co, st.sv, st.kn, st.kc, st.S, st.Kd, st.In, st.Hw, st.Fr, st.Gn, st.R, st.L, st.T, st.O, st.B, st.W⟩ : MS) E4 V E K inp w wV wC hM (by omega) kd x1 x2 x3 hf) (cwV 4 ht (TW_V k_ml_M_120 k_im_M_needs k_se_M_needs k_in_M k_code_M_needs) rfl rfl rfl hv_M_needs ⟨Nat.le_of_ble_eq_true rfl, Nat.le_of_ble_eq_true rfl⟩) ⟨x_blind, va_recv hK hP rfl h5, x_pre hE hA hS hP hD⟩ rfl rfl hl.1 rfl (lv_room (Nat.le_of_ble_eq_true rfl)) d_M_expression_29 ⟨Nat.le_of_ble_eq_true rfl, Nat.le_of_ble_eq_true rfl⟩) hS (fun r12 w11 H locs q10 hP hD hS => ?_)
    obtain ⟨rfl, O9, E9⟩ := q10
    obtain ⟨nn, enn⟩ : ∃ zz : Nat, zz = (if kd = 1 then 1 else nd kd E x1 x2 x3) := ⟨_, rfl⟩
    have nb : nn ≤ 4 := by rw [enn]; split <;> omega
    rw [← enn]
    have E13 : w11 = mW G a (⟨0, st.ex, st.va, st.co, st.sv, st.kn, st.kc, st.S, st.Kd, st.In, st.Hw, st.Fr, st.Gn, st.R, st.L, st.T, O9, st.B, st.W⟩ : MS) := E9
    have h14 : w11[0]? = some (a.m, .inr (5, [.int (nI 0), .ref a.aS, .ref a.aK, .ref a.aI, .int (nI st.ex), .ref a.aH, .ref a.aF, .ref a.aG, .int (nI st.va), .ref a.aR, .int (nI st.co), .ref a.aL, .ref a.aT, .ref a.aO, .ref a.aB, .ref a.aW, .int (nI st.sv), .int (nI st.kn), .int (nI st.kc)])) := by rw [E13]; rfl
    refine lv_istore (lv' := [(5, .int (nI nn)), (0, .ref a.m), (1, .int (nI kd)), (2, .int x1), (3, .int x2), (4, .int x3)]) hx hb d_M_expression_32 hl (by decide) rfl (fun ls hl => ?_)
    refine lv_aload_n hx hb d_M_expression_34 rfl (lv_at hl 1 rfl) ?_
    refine va_get (D := xD G) (ci := 5) (C := R_M) (T := F_M) (N := 19) hx hb ht in_M hown hK hP 0 h14 rfl 4 (by decide) (ht _ k_fl_M_53) (fun _ h9 => h9) rfl d_M_expression_35 ?_
    refine lv_bipush (v := (nI 60)) hx hb d_M_expression_38 (by decide) ?_
    refine x_eq hx hb st.ex 60 rfl rfl (by omega) (by omega) (tgt := 72) d_M_expression_40 (by decide) (fun c15 => ?_) (fun c15 => ?_)
    · refine lv_aload_n hx hb d_M_expression_72 rfl (lv_at hl 1 rfl) ?_
      refine lv_iconst (v := (nI 2)) hx hb d_M_expression_73 (by decide) ?_
      refine x_calli (va_runV (As := [.int (nI 2)]) (rest := []) ⟨hx, hb, hml, hown, ht⟩ (c_M_raise l G A w11 a (⟨0, st.ex, st.va, st.co, st.sv, st.kn, st.kc, st.S, st.Kd, st.In, st.Hw, st.Fr, st.Gn, st.R, st.L, st.T, O9, st.B, st.W⟩ : MS) E13 2) (cwV 1 ht (TW_V k_ml_M_117 k_im_M_raise k_se_M_raise k_in_M k_code_M_raise) rfl rfl rfl hv_M_raise ⟨Nat.le_of_ble_eq_true rfl, Nat.le_of_ble_eq_true rfl⟩) ⟨x_blind, va_recv hK hP rfl h14, x_pre hE hA hS hP hD⟩ rfl rfl hl.1 rfl (lv_room (Nat.le_of_ble_eq_true rfl)) d_M_expression_74 ⟨Nat.le_of_ble_eq_true rfl, Nat.le_of_ble_eq_true rfl⟩) hS (fun r18 w17 H locs q16 hP hD hS => ?_)
      obtain ⟨rfl, q16⟩ := q16
      have E19 : w17 = mW G a (⟨2, st.ex, st.va, st.co, st.sv, st.kn, st.kc, st.S, st.Kd, st.In, st.Hw, st.Fr, st.Gn, st.R, st.L, st.T, O9, st.B, st.W⟩ : MS) := q16
      have h20 : w17[0]? = some (a.m, .inr (5, [.int (nI 2), .ref a.aS, .ref a.aK, .ref a.aI, .int (nI st.ex), .ref a.aH, .ref a.aF, .ref a.aG, .int (nI st.va), .ref a.aR, .int (nI st.co), .ref a.aL, .ref a.aT, .ref a.aO, .ref a.aB, .ref a.aW, .int (nI st.sv), .int (nI st.kn), .int (nI st.kc)])) := by rw [E19]; rfl
      exact x_iret hx hb hr hlocks hS hP hD (Nat.le_of_ble_eq_true rfl) (Nat.le_of_ble_eq_true rfl) d_M_expression_77 (⟨_, E19, Or.inr (Or.inr (⟨rfl, ⟨kd, rfl, hf, fun q => by obtain ⟨q1, q2, q3⟩ := q; rw [← enn] at q2; omega⟩, hM⟩))⟩)
    · refine lv_aload_n hx hb d_M_expression_43 rfl (lv_at hl 1 rfl) ?_
      refine va_get (D := xD G) (ci := 5) (C := R_M) (T := F_M) (N := 19) hx hb ht in_M hown hK hP 0 h14 rfl 8 (by decide) (ht _ k_fl_M_28) (fun _ h9 => h9) rfl d_M_expression_44 ?_
      refine lv_iload hx hb d_M_expression_47 (lv_at hl 0 rfl) ?_
      refine lv_iadd hx hb d_M_expression_49 ?_
      refine x_top (nI (st.va + nn)) (nI_add _ _) ?_
      refine lv_bipush (v := (nI 60)) hx hb d_M_expression_50 (by decide) ?_
      refine x_gt hx hb (st.va + nn) 60 rfl rfl (by omega) (by omega) (tgt := 72) d_M_expression_52 (by decide) (fun c21 => ?_) (fun c21 => ?_)
      · refine lv_aload_n hx hb d_M_expression_72 rfl (lv_at hl 1 rfl) ?_
        refine lv_iconst (v := (nI 2)) hx hb d_M_expression_73 (by decide) ?_
        refine x_calli (va_runV (As := [.int (nI 2)]) (rest := []) ⟨hx, hb, hml, hown, ht⟩ (c_M_raise l G A w11 a (⟨0, st.ex, st.va, st.co, st.sv, st.kn, st.kc, st.S, st.Kd, st.In, st.Hw, st.Fr, st.Gn, st.R, st.L, st.T, O9, st.B, st.W⟩ : MS) E13 2) (cwV 1 ht (TW_V k_ml_M_117 k_im_M_raise k_se_M_raise k_in_M k_code_M_raise) rfl rfl rfl hv_M_raise ⟨Nat.le_of_ble_eq_true rfl, Nat.le_of_ble_eq_true rfl⟩) ⟨x_blind, va_recv hK hP rfl h14, x_pre hE hA hS hP hD⟩ rfl rfl hl.1 rfl (lv_room (Nat.le_of_ble_eq_true rfl)) d_M_expression_74 ⟨Nat.le_of_ble_eq_true rfl, Nat.le_of_ble_eq_true rfl⟩) hS (fun r24 w23 H locs q22 hP hD hS => ?_)
        obtain ⟨rfl, q22⟩ := q22
        have E25 : w23 = mW G a (⟨2, st.ex, st.va, st.co, st.sv, st.kn, st.kc, st.S, st.Kd, st.In, st.Hw, st.Fr, st.Gn, st.R, st.L, st.T, O9, st.B, st.W⟩ : MS) := q22
        have h26 : w23[0]? = some (a.m, .inr (5, [.int (nI 2), .ref a.aS, .ref a.aK, .ref a.aI, .int (nI st.ex), .ref a.aH, .ref a.aF, .ref a.aG, .int (nI st.va), .ref a.aR, .int (nI st.co), .ref a.aL, .ref a.aT, .ref a.aO, .ref a.aB, .ref a.aW, .int (nI st.sv), .int (nI st.kn), .int (nI st.kc)])) := by rw [E25]; rfl
        exact x_iret hx hb hr hlocks hS hP hD (Nat.le_of_ble_eq_true rfl) (Nat.le_of_ble_eq_true rfl) d_M_expression_77 (⟨_, E25, Or.inr (Or.inr (⟨rfl, ⟨kd, rfl, hf, fun q => by obtain ⟨q1, q2, q3⟩ := q; rw [← enn] at q2; omega⟩, hM⟩))⟩)
      · refine lv_iload_n hx hb d_M_expression_55 rfl (lv_at hl 2 rfl) ?_
        refine lv_iconst (v := (nI 1)) hx hb d_M_expression_56 (by decide) ?_
        refine x_eq hx hb kd 1 rfl rfl (by omega) (by omega) (tgt := 78) d_M_expression_57 (by decide) (fun c27 => ?_) (fun c27 => ?_)
        · have rm9 : room kd V E K x1 x2 x3 := ⟨by omega, by rw [← enn]; omega, by rw [c27]; show K.length + 0 ≤ 80; omega⟩
          refine lv_aload_n hx hb d_M_expression_78 rfl (lv_at hl 1 rfl) ?_
          refine lv_iload_n hx hb d_M_expression_79 rfl (lv_at hl 2 rfl) ?_
          refine lv_iload_n hx hb d_M_expression_80 rfl (lv_at hl 3 rfl) ?_
          refine lv_iload_n hx hb d_M_expression_81 rfl (lv_at hl 4 rfl) ?_
          refine lv_iload hx hb d_M_expression_82 (lv_at hl 5 rfl) ?_
          refine x_callv (va_runV (As := [.int (nI kd), .int x1, .int x2, .int x3]) (rest := []) ⟨hx, hb, hml, hown, ht⟩ (c_M_work l G A w11 a (⟨0, st.ex, st.va, st.co, st.sv, st.kn, st.kc, st.S, st.Kd, st.In, st.Hw, st.Fr, st.Gn, st.R, st.L, st.T, O9, st.B, st.W⟩ : MS) E13 V E K inp w wV wC hM rm9.1 kd x1 x2 x3 hf rm9.2.1 rm9.2.2) (cwV 4 ht (TW_V k_ml_M_124 k_im_M_work k_se_M_work k_in_M k_code_M_work) rfl rfl rfl hv_M_work ⟨Nat.le_of_ble_eq_true rfl, Nat.le_of_ble_eq_true rfl⟩) ⟨x_blind, va_recv hK hP rfl h14, x_pre hE hA hS hP hD⟩ rfl rfl hl.1 rfl (lv_room (Nat.le_of_ble_eq_true rfl)) d_M_expression_84 ⟨Nat.le_of_ble_eq_true rfl, Nat.le_of_ble_eq_true rfl⟩) hS (fun w29 H locs q28 hP hD hS => ?_)
          obtain ⟨st1, E1, rel1, L1, sup1, bd1, th1, in1⟩ := q28
          have hx1 := rel1.2.2.1.1
          have h30 : w29[0]? = some (a.m, .inr (5, [.int (nI st1.th), .ref a.aS, .ref a.aK, .ref a.aI, .int (nI st1.ex), .ref a.aH, .ref a.aF, .ref a.aG, .int (nI st1.va), .ref a.aR, .int (nI st1.co), .ref a.aL, .ref a.aT, .ref a.aO, .ref a.aB, .ref a.aW, .int (nI st1.sv), .int (nI st1.kn), .int (nI st1.kc)])) := by rw [E1]; rfl
          have h31 : w29[1]? = some (a.aS, aI G 3600 (rI st1.S)) := by rw [E1]; rfl
          have h32 : w29[2]? = some (a.aK, aI G 60 (rI st1.Kd)) := by rw [E1]; rfl
          have h33 : w29[8]? = some (a.aL, aI G 60 (rI st1.L)) := by rw [E1]; rfl
          refine lv_aload_n hx hb d_M_expression_87 rfl (lv_at hl 1 rfl) ?_
          refine va_get (D := xD G) (ci := 5) (C := R_M) (T := F_M) (N := 19) hx hb ht in_M hown hK hP 0 h30 rfl 2 (by decide) (ht _ k_fl_M_13) (fun _ h9 => h9) rfl d_M_expression_88 ?_
          refine lv_aload_n hx hb d_M_expression_91 rfl (lv_at hl 1 rfl) ?_
          refine va_get (D := xD G) (ci := 5) (C := R_M) (T := F_M) (N := 19) hx hb ht in_M hown hK hP 0 h30 rfl 4 (by decide) (ht _ k_fl_M_53) (fun _ h9 => h9) rfl d_M_expression_92 ?_
          refine lv_iload_n hx hb d_M_expression_95 rfl (lv_at hl 2 rfl) ?_
          refine x_iast hx hb hK hP hD hS h32 st1.ex rfl (by omega) (by omega) d_M_expression_96 (fun H locs hP hD hS => ?_)
          have hP : va_P (xD G) CL (w29.set 2 (a.aK, aI G 60 (upd (rI st1.Kd) st1.ex (nI kd)))) H := hP
          have hD : va_D A (w29.set 2 (a.aK, aI G 60 (upd (rI st1.Kd) st1.ex (nI kd)))) := hD
          obtain ⟨w34, e_w34⟩ : ∃ zz : va_W, zz = w29.set 2 (a.aK, aI G 60 (upd (rI st1.Kd) st1.ex (nI kd))) := ⟨_, rfl⟩
          rw [← e_w34] at hP hD
          have h35 : w34[2]? = some (a.aK, aI G 60 (upd (rI st1.Kd) st1.ex (nI kd))) := by rw [e_w34]; exact w_eq h32
          have E36 : w34 = mW G a (⟨st1.th, st1.ex, st1.va, st1.co, st1.sv, st1.kn, st1.kc, st1.S, (va_up st1.Kd st1.ex kd), st1.In, st1.Hw, st1.Fr, st1.Gn, st1.R, st1.L, st1.T, st1.O, st1.B, st1.W⟩ : MS) := by rw [e_w34, E1, up_rI]; rfl
          have h37 : w34[0]? = some (a.m, .inr (5, [.int (nI st1.th), .ref a.aS, .ref a.aK, .ref a.aI, .int (nI st1.ex), .ref a.aH, .ref a.aF, .ref a.aG, .int (nI st1.va), .ref a.aR, .int (nI st1.co), .ref a.aL, .ref a.aT, .ref a.aO, .ref a.aB, .ref a.aW, .int (nI st1.sv), .int (nI st1.kn), .int (nI st1.kc)])) := by rw [E36]; rfl
          have h38 : w34[1]? = some (a.aS, aI G 3600 (rI st1.S)) := by rw [E36]; rfl
          have h39 : w34[2]? = some (a.aK, aI G 60 (rI (va_up st1.Kd st1.ex kd))) := by rw [E36]; rfl
          have h40 : w34[8]? = some (a.aL, aI G 60 (rI st1.L)) := by rw [E36]; rfl
          refine lv_iconst (v := (nI 0)) hx hb d_M_expression_97 (by decide) ?_
          refine lv_istore (lv' := [(6, .int (nI 0)), (5, .int (nI nn)), (0, .ref a.m), (1, .int (nI kd)), (2, .int x1), (3, .int x2), (4, .int x3)]) hx hb d_M_expression_98 hl (by decide) rfl (fun ls hl => ?_)
          have z9 : w34 = (w34.set 1 (a.aS, aI G 3600 (rI (ovb 0 (60 * st1.ex) st1.S st1.L)))) := by rw [ovb_0]; exact (w_self h38).symm
          rw [z9] at hP hD
          have loop : ∀ (n i : Nat), i + n = 60 → ∀ (H : Heap) (locs : List Loc) (ls : Array Slot), (va_P (xD G) CL (w34.set 1 (a.aS, aI G 3600 (rI (ovb i (60 * st1.ex) st1.S st1.L)))) H) → (va_D A (w34.set 1 (a.aS, aI G 3600 (rI (ovb i (60 * st1.ex) st1.S st1.L))))) → (va_S A s.heap H locs) → lv_has ls 7 [(6, .int (nI i)), (5, .int (nI nn)), (0, .ref a.m), (1, .int (nI kd)), (2, .int x1), (3, .int x2), (4, .int x3)] → W p l e (headSpec (cw_M_expression :: TW) { frames := 7, cells := 0, slots := 0, locals := 182 }).room s m ([.ref a.m, .int (nI kd), .int x1, .int x2, .int x3] : List Value).toArray below meth c H locs 0 0 (MQ below (qI G A (fun r w9 => ∃ st' : MS, w9 = mW G a st' ∧ ((st'.th = 0 ∧ r = nI E.length ∧ ∃ kq, (nI kd) = nI kq ∧ wfd kq E.length x1 x2 x3 ∧ room kq V E K x1 x2 x3 ∧ MRel st' (exS kq V E K inp x1 x2 x3).1 (exS kq V E K inp x1 x2 x3).2.1 (exS kq V E K inp x1 x2 x3).2.2.1 (exS kq V E K inp x1 x2 x3).2.2.2 w wV wC) ∨ (st'.th = 1 ∧ (¬ wfx E.length (nI kd) x1 x2 x3) ∧ MRel st' V E K inp w wV wC) ∨ (st'.th = 2 ∧ (∃ kq, (nI kd) = nI kq ∧ wfd kq E.length x1 x2 x3 ∧ ¬ room kq V E K x1 x2 x3) ∧ MRel st' V E K inp w wV wC)))) ([.ref a.m, .int (nI kd), .int x1, .int x2, .int x3] : List Value).toArray s 0 0 A) (F0 m 100 ls []) := by
            intro n
            induction n with
            | zero =>
              intro i hi H locs ls hP hD hS hl
              refine lv_iload hx hb d_M_expression_100 (lv_at hl 0 rfl) ?_
              refine lv_bipush (v := (nI 60)) hx hb d_M_expression_102 (by decide) ?_
              refine x_ge hx hb i 60 rfl rfl (by omega) (by omega) (tgt := 135) d_M_expression_104 (by decide) (fun c41 => ?_) (fun c41 => ?_)
              · have i0 : i = 60 := by omega
                rw [i0] at hP hD
                obtain ⟨w42, e_w42⟩ : ∃ zz : va_W, zz = (w34.set 1 (a.aS, aI G 3600 (rI (ovb 60 (60 * st1.ex) st1.S st1.L)))) := ⟨_, rfl⟩
                rw [← e_w42] at hP hD
                have h43 : w42[0]? = some (a.m, .inr (5, [.int (nI st1.th), .ref a.aS, .ref a.aK, .ref a.aI, .int (nI st1.ex), .ref a.aH, .ref a.aF, .ref a.aG, .int (nI st1.va), .ref a.aR, .int (nI st1.co), .ref a.aL, .ref a.aT, .ref a.aO, .ref a.aB, .ref a.aW, .int (nI st1.sv), .int (nI st1.kn), .int (nI st1.kc)])) := by rw [e_w42]; exact w_ne (by decide) h37
                have h44 : w42[1]? = some (a.aS, aI G 3600 (rI (ovb 60 (60 * st1.ex) st1.S st1.L))) := by rw [e_w42]; exact w_eq h38
                have h45 : w42[2]? = some (a.aK, aI G 60 (rI (va_up st1.Kd st1.ex kd))) := by rw [e_w42]; exact w_ne (by decide) h39
                have h46 : w42[8]? = some (a.aL, aI G 60 (rI st1.L)) := by rw [e_w42]; exact w_ne (by decide) h40
                have E47 : w42 = mW G a (⟨st1.th, st1.ex, st1.va, st1.co, st1.sv, st1.kn, st1.kc, (ovb 60 (60 * st1.ex) st1.S st1.L), (va_up st1.Kd st1.ex kd), st1.In, st1.Hw, st1.Fr, st1.Gn, st1.R, st1.L, st1.T, st1.O, st1.B, st1.W⟩ : MS) := by rw [e_w42, E36]; rfl
                have h48 : w42[0]? = some (a.m, .inr (5, [.int (nI st1.th), .ref a.aS, .ref a.aK, .ref a.aI, .int (nI st1.ex), .ref a.aH, .ref a.aF, .ref a.aG, .int (nI st1.va), .ref a.aR, .int (nI st1.co), .ref a.aL, .ref a.aT, .ref a.aO, .ref a.aB, .ref a.aW, .int (nI st1.sv), .int (nI st1.kn), .int (nI st1.kc)])) := by rw [E47]; rfl
                refine lv_aload_n hx hb d_M_expression_135 rfl (lv_at hl 2 rfl) ?_
                refine lv_dup hx hb d_M_expression_136 rfl ?_
                refine va_get (D := xD G) (ci := 5) (C := R_M) (T := F_M) (N := 19) hx hb ht in_M hown hK hP 0 h48 rfl 4 (by decide) (ht _ k_fl_M_53) (fun _ h9 => h9) rfl d_M_expression_137 ?_
                refine lv_iconst (v := (nI 1)) hx hb d_M_expression_140 (by decide) ?_
                refine lv_iadd hx hb d_M_expression_141 ?_
                refine x_top (nI (st1.ex + 1)) (nI_add _ _) ?_
                refine va_put (D := xD G) (ci := 5) (v := .int (nI (st1.ex + 1))) (ty := .int) (C := R_M) (T := F_M) (N := 19) hx hb ht in_M ft_M fo_M nm_M hown hK hP hD hS 0 h48 rfl 4 (by decide) (ht _ k_fl_M_53) (fun _ h9 => h9) rfl (by decide +kernel) rfl rfl (Nat.le_of_ble_eq_true rfl) d_M_expression_142 (fun H locs hP hD hS => ?_)
                have hP : va_P (xD G) CL (w42.set 0 (a.m, .inr (5, [.int (nI st1.th), .ref a.aS, .ref a.aK, .ref a.aI, .int (nI (st1.ex + 1)), .ref a.aH, .ref a.aF, .ref a.aG, .int (nI st1.va), .ref a.aR, .int (nI st1.co), .ref a.aL, .ref a.aT, .ref a.aO, .ref a.aB, .ref a.aW, .int (nI st1.sv), .int (nI st1.kn), .int (nI st1.kc)]))) H := hP
                have hD : va_D A (w42.set 0 (a.m, .inr (5, [.int (nI st1.th), .ref a.aS, .ref a.aK, .ref a.aI, .int (nI (st1.ex + 1)), .ref a.aH, .ref a.aF, .ref a.aG, .int (nI st1.va), .ref a.aR, .int (nI st1.co), .ref a.aL, .ref a.aT, .ref a.aO, .ref a.aB, .ref a.aW, .int (nI st1.sv), .int (nI st1.kn), .int (nI st1.kc)]))) := hD
                obtain ⟨w49, e_w49⟩ : ∃ zz : va_W, zz = w42.set 0 (a.m, .inr (5, [.int (nI st1.th), .ref a.aS, .ref a.aK, .ref a.aI, .int (nI (st1.ex + 1)), .ref a.aH, .ref a.aF, .ref a.aG, .int (nI st1.va), .ref a.aR, .int (nI st1.co), .ref a.aL, .ref a.aT, .ref a.aO, .ref a.aB, .ref a.aW, .int (nI st1.sv), .int (nI st1.kn), .int (nI st1.kc)])) := ⟨_, rfl⟩
                rw [← e_w49] at hP hD
                have h50 : w49[0]? = some (a.m, .inr (5, [.int (nI st1.th), .ref a.aS, .ref a.aK, .ref a.aI, .int (nI (st1.ex + 1)), .ref a.aH, .ref a.aF, .ref a.aG, .int (nI st1.va), .ref a.aR, .int (nI st1.co), .ref a.aL, .ref a.aT, .ref a.aO, .ref a.aB, .ref a.aW, .int (nI st1.sv), .int (nI st1.kn), .int (nI st1.kc)])) := by rw [e_w49]; exact w_eq h48
                have E51 : w49 = mW G a (⟨st1.th, st1.ex + 1, st1.va, st1.co, st1.sv, st1.kn, st1.kc, (ovb 60 (60 * st1.ex) st1.S st1.L), (va_up st1.Kd st1.ex kd), st1.In, st1.Hw, st1.Fr, st1.Gn, st1.R, st1.L, st1.T, st1.O, st1.B, st1.W⟩ : MS) := by rw [e_w49, E47]; rfl
                have h52 : w49[0]? = some (a.m, .inr (5, [.int (nI st1.th), .ref a.aS, .ref a.aK, .ref a.aI, .int (nI (st1.ex + 1)), .ref a.aH, .ref a.aF, .ref a.aG, .int (nI st1.va), .ref a.aR, .int (nI st1.co), .ref a.aL, .ref a.aT, .ref a.aO, .ref a.aB, .ref a.aW, .int (nI st1.sv), .int (nI st1.kn), .int (nI st1.kc)])) := by rw [E51]; rfl
                refine lv_aload_n hx hb d_M_expression_145 rfl (lv_at hl 2 rfl) ?_
                refine va_get (D := xD G) (ci := 5) (C := R_M) (T := F_M) (N := 19) hx hb ht in_M hown hK hP 0 h52 rfl 4 (by decide) (ht _ k_fl_M_53) (fun _ h9 => h9) rfl d_M_expression_146 ?_
                refine lv_iconst (v := (nI 1)) hx hb d_M_expression_149 (by decide) ?_
                refine lv_isub hx hb d_M_expression_150 ?_
                refine x_top (nI ((st1.ex + 1) - 1)) (pk_sub (by omega)) ?_
                have rel : MRel (⟨st1.th, st1.ex + 1, st1.va, st1.co, st1.sv, st1.kn, st1.kc, (ovb 60 (60 * st1.ex) st1.S st1.L), (va_up st1.Kd st1.ex kd), st1.In, st1.Hw, st1.Fr, st1.Gn, st1.R, st1.L, st1.T, st1.O, st1.B, st1.W⟩ : MS) (exS kd V E K inp x1 x2 x3).1 (exS kd V E K inp x1 x2 x3).2.1 (exS kd V E K inp x1 x2 x3).2.2.1 (exS kd V E K inp x1 x2 x3).2.2.2 w wV wC := by
                  by_cases k1 : kd = 1
                  · subst k1
                    have l1 : (V ++ [((1 : Nat), zr, zr, (0 : Nat))]).length = V.length + 1 := by simp
                    have l2 : (wkS 1 E (V, K) x1 x2 x3).1.1.length = V.length + 1 := l1
                    refine ⟨rel1.1, rel1.2.1, ?_, rel1.2.2.2⟩
                    exact RE.add (kd := 1) (i := V.length) (f := unit V.length) rel1.2.2.1 L1 bd1 sup1 ⟨fun _ => by omega, fun _ => rfl⟩ (fun _ => by rw [hx1]; exact in1 rfl) (by decide) (show V.length < (V ++ [((1 : Nat), zr, zr, (0 : Nat))]).length by omega)
                  · have e5 : wkS kd E (V, K) x1 x2 x3 = mkSum kd E (V, K) x1 x2 x3 := by unfold wkS; rw [if_neg k1]
                    have e6 : exS kd V E K inp x1 x2 x3 = ((mkSum kd E (V, K) x1 x2 x3).1.1, E ++ [((mkSum kd E (V, K) x1 x2 x3).2, 0)], (mkSum kd E (V, K) x1 x2 x3).1.2, inp) := by unfold exS; rw [if_neg k1]
                    rw [e5] at rel1 L1 bd1 sup1
                    rw [e6]
                    have re9 := RE.add (kd := kd) (i := 0) (f := (mkSum kd E (V, K) x1 x2 x3).2) rel1.2.2.1 L1 bd1 sup1 ⟨fun q => absurd q k1, fun q => absurd rfl q⟩ (fun q => absurd rfl q) k9 (by have := rel1.2.1.2.1; omega)
                    rw [if_neg k1] at re9
                    exact ⟨rel1.1, rel1.2.1, re9, rel1.2.2.2⟩
                exact x_iret hx hb hr hlocks hS hP hD (Nat.le_of_ble_eq_true rfl) (Nat.le_of_ble_eq_true rfl) d_M_expression_151 (⟨_, E51, Or.inl ⟨th1, by rw [Nat.add_sub_cancel, hx1], kd, rfl, hf, rm9, rel⟩⟩)
              · exact False.elim (by omega)
            | succ n ih =>
              intro i hi H locs ls hP hD hS hl
              refine lv_iload hx hb d_M_expression_100 (lv_at hl 0 rfl) ?_
              refine lv_bipush (v := (nI 60)) hx hb d_M_expression_102 (by decide) ?_
              refine x_ge hx hb i 60 rfl rfl (by omega) (by omega) (tgt := 135) d_M_expression_104 (by decide) (fun c53 => ?_) (fun c53 => ?_)
              · exact False.elim (by omega)
              · obtain ⟨w54, e_w54⟩ : ∃ zz : va_W, zz = (w34.set 1 (a.aS, aI G 3600 (rI (ovb i (60 * st1.ex) st1.S st1.L)))) := ⟨_, rfl⟩
                rw [← e_w54] at hP hD
                have h55 : w54[0]? = some (a.m, .inr (5, [.int (nI st1.th), .ref a.aS, .ref a.aK, .ref a.aI, .int (nI st1.ex), .ref a.aH, .ref a.aF, .ref a.aG, .int (nI st1.va), .ref a.aR, .int (nI st1.co), .ref a.aL, .ref a.aT, .ref a.aO, .ref a.aB, .ref a.aW, .int (nI st1.sv), .int (nI st1.kn), .int (nI st1.kc)])) := by rw [e_w54]; exact w_ne (by decide) h37
                have h56 : w54[1]? = some (a.aS, aI G 3600 (rI (ovb i (60 * st1.ex) st1.S st1.L))) := by rw [e_w54]; exact w_eq h38
                have h57 : w54[2]? = some (a.aK, aI G 60 (rI (va_up st1.Kd st1.ex kd))) := by rw [e_w54]; exact w_ne (by decide) h39
                have h58 : w54[8]? = some (a.aL, aI G 60 (rI st1.L)) := by rw [e_w54]; exact w_ne (by decide) h40
                refine lv_aload_n hx hb d_M_expression_107 rfl (lv_at hl 2 rfl) ?_
                refine va_get (D := xD G) (ci := 5) (C := R_M) (T := F_M) (N := 19) hx hb ht in_M hown hK hP 0 h55 rfl 1 (by decide) (ht _ k_fl_M_7) (fun _ h9 => h9) rfl d_M_expression_108 ?_
                refine lv_bipush (v := (nI 60)) hx hb d_M_expression_111 (by decide) ?_
                refine lv_aload_n hx hb d_M_expression_113 rfl (lv_at hl 2 rfl) ?_
                refine va_get (D := xD G) (ci := 5) (C := R_M) (T := F_M) (N := 19) hx hb ht in_M hown hK hP 0 h55 rfl 4 (by decide) (ht _ k_fl_M_53) (fun _ h9 => h9) rfl d_M_expression_114 ?_
                refine lv_imul hx hb d_M_expression_117 ?_
                refine x_top (nI (60 * st1.ex)) (pk_mul _ _) ?_
                refine lv_iload hx hb d_M_expression_118 (lv_at hl 0 rfl) ?_
                refine lv_iadd hx hb d_M_expression_120 ?_
                refine x_top (nI ((60 * st1.ex) + i)) (nI_add _ _) ?_
                refine lv_aload_n hx hb d_M_expression_121 rfl (lv_at hl 2 rfl) ?_
                refine va_get (D := xD G) (ci := 5) (C := R_M) (T := F_M) (N := 19) hx hb ht in_M hown hK hP 0 h55 rfl 11 (by decide) (ht _ k_fl_M_35) (fun _ h9 => h9) rfl d_M_expression_122 ?_
                refine lv_iload hx hb d_M_expression_125 (lv_at hl 0 rfl) ?_
                refine x_iald hx hb hK hP h58 i rfl (by omega) (by omega) d_M_expression_127 ?_
                refine x_top (nI (st1.L i)) (rfl) ?_
                refine x_iast hx hb hK hP hD hS h56 ((60 * st1.ex) + i) rfl (by omega) (by omega) d_M_expression_128 (fun H locs hP hD hS => ?_)
                have hP : va_P (xD G) CL (w54.set 1 (a.aS, aI G 3600 (upd (rI (ovb i (60 * st1.ex) st1.S st1.L)) ((60 * st1.ex) + i) (nI (st1.L i))))) H := hP
                have hD : va_D A (w54.set 1 (a.aS, aI G 3600 (upd (rI (ovb i (60 * st1.ex) st1.S st1.L)) ((60 * st1.ex) + i) (nI (st1.L i))))) := hD
                obtain ⟨w59, e_w59⟩ : ∃ zz : va_W, zz = w54.set 1 (a.aS, aI G 3600 (upd (rI (ovb i (60 * st1.ex) st1.S st1.L)) ((60 * st1.ex) + i) (nI (st1.L i)))) := ⟨_, rfl⟩
                rw [← e_w59] at hP hD
                have h60 : w59[1]? = some (a.aS, aI G 3600 (upd (rI (ovb i (60 * st1.ex) st1.S st1.L)) ((60 * st1.ex) + i) (nI (st1.L i)))) := by rw [e_w59]; exact w_eq h56
                have eN9 : w59 = (w34.set 1 (a.aS, aI G 3600 (rI (ovb (i + 1) (60 * st1.ex) st1.S st1.L)))) := by rw [e_w59, e_w54, List.set_set, up_rI]; exact congrArg (fun q9 => w34.set 1 (a.aS, aI G 3600 (rI q9))) ovb_s
                refine lv_iinc (v := nI (i + 1)) (lv' := [(6, .int (nI (i + 1))), (5, .int (nI nn)), (0, .ref a.m), (1, .int (nI kd)), (2, .int x1), (3, .int x2), (4, .int x3)]) hx hb d_M_expression_129 hl (k := 0) rfl (n_inc _) (by decide) rfl (fun ls hl => ?_)
                refine lv_goto (tgt := 100) hx hb d_M_expression_132 (by decide) ?_
                exact ih (i + 1) (by omega) H locs ls (by rw [← eN9]; exact hP) (by rw [← eN9]; exact hD) hS (lv_sub hl [0, 1, 2, 3, 4, 5, 6] rfl)
          exact loop 60 0 (by omega) H locs ls hP hD hS (lv_sub hl [0, 1, 2, 3, 4, 5, 6] rfl)
        · rw [if_neg c27] at enn
          refine lv_aload_n hx hb d_M_expression_60 rfl (lv_at hl 1 rfl) ?_
          refine va_get (D := xD G) (ci := 5) (C := R_M) (T := F_M) (N := 19) hx hb ht in_M hown hK hP 0 h14 rfl 10 (by decide) (ht _ k_fl_M_72) (fun _ h9 => h9) rfl d_M_expression_61 ?_
          refine lv_iload hx hb d_M_expression_64 (lv_at hl 0 rfl) ?_
          refine lv_iadd hx hb d_M_expression_66 ?_
          refine x_top (nI (st.co + nn)) (nI_add _ _) ?_
          refine lv_bipush (v := (nI 80)) hx hb d_M_expression_67 (by decide) ?_
          have enn2 : (if kd = 1 then 1 else nd kd E x1 x2 x3) = nn := by rw [if_neg c27]; exact enn.symm
          refine x_le hx hb (st.co + nn) 80 rfl rfl (by omega) (by omega) (tgt := 78) d_M_expression_69 (by decide) (fun c61 => ?_) (fun c61 => ?_)
          · have enn : nn = (if kd = 1 then 1 else nd kd E x1 x2 x3) := enn2.symm
            have rm9 : room kd V E K x1 x2 x3 := ⟨by omega, by rw [← enn]; omega, by have e3 := enn2; rw [if_neg (by assumption)] at e3; omega⟩
            refine lv_aload_n hx hb d_M_expression_78 rfl (lv_at hl 1 rfl) ?_
            refine lv_iload_n hx hb d_M_expression_79 rfl (lv_at hl 2 rfl) ?_
            refine lv_iload_n hx hb d_M_expression_80 rfl (lv_at hl 3 rfl) ?_
            refine lv_iload_n hx hb d_M_expression_81 rfl (lv_at hl 4 rfl) ?_
            refine lv_iload hx hb d_M_expression_82 (lv_at hl 5 rfl) ?_
            refine x_callv (va_runV (As := [.int (nI kd), .int x1, .int x2, .int x3]) (rest := []) ⟨hx, hb, hml, hown, ht⟩ (c_M_work l G A w11 a (⟨0, st.ex, st.va, st.co, st.sv, st.kn, st.kc, st.S, st.Kd, st.In, st.Hw, st.Fr, st.Gn, st.R, st.L, st.T, O9, st.B, st.W⟩ : MS) E13 V E K inp w wV wC hM rm9.1 kd x1 x2 x3 hf rm9.2.1 rm9.2.2) (cwV 4 ht (TW_V k_ml_M_124 k_im_M_work k_se_M_work k_in_M k_code_M_work) rfl rfl rfl hv_M_work ⟨Nat.le_of_ble_eq_true rfl, Nat.le_of_ble_eq_true rfl⟩) ⟨x_blind, va_recv hK hP rfl h14, x_pre hE hA hS hP hD⟩ rfl rfl hl.1 rfl (lv_room (Nat.le_of_ble_eq_true rfl)) d_M_expression_84 ⟨Nat.le_of_ble_eq_true rfl, Nat.le_of_ble_eq_true rfl⟩) hS (fun w63 H locs q62 hP hD hS => ?_)
            obtain ⟨st1, E1, rel1, L1, sup1, bd1, th1, in1⟩ := q62
            have hx1 := rel1.2.2.1.1
            have h64 : w63[0]? = some (a.m, .inr (5, [.int (nI st1.th), .ref a.aS, .ref a.aK, .ref a.aI, .int (nI st1.ex), .ref a.aH, .ref a.aF, .ref a.aG, .int (nI st1.va), .ref a.aR, .int (nI st1.co), .ref a.aL, .ref a.aT, .ref a.aO, .ref a.aB, .ref a.aW, .int (nI st1.sv), .int (nI st1.kn), .int (nI st1.kc)])) := by rw [E1]; rfl
            have h65 : w63[1]? = some (a.aS, aI G 3600 (rI st1.S)) := by rw [E1]; rfl
            have h66 : w63[2]? = some (a.aK, aI G 60 (rI st1.Kd)) := by rw [E1]; rfl
            have h67 : w63[8]? = some (a.aL, aI G 60 (rI st1.L)) := by rw [E1]; rfl
            refine lv_aload_n hx hb d_M_expression_87 rfl (lv_at hl 1 rfl) ?_
            refine va_get (D := xD G) (ci := 5) (C := R_M) (T := F_M) (N := 19) hx hb ht in_M hown hK hP 0 h64 rfl 2 (by decide) (ht _ k_fl_M_13) (fun _ h9 => h9) rfl d_M_expression_88 ?_
            refine lv_aload_n hx hb d_M_expression_91 rfl (lv_at hl 1 rfl) ?_
            refine va_get (D := xD G) (ci := 5) (C := R_M) (T := F_M) (N := 19) hx hb ht in_M hown hK hP 0 h64 rfl 4 (by decide) (ht _ k_fl_M_53) (fun _ h9 => h9) rfl d_M_expression_92 ?_
            refine lv_iload_n hx hb d_M_expression_95 rfl (lv_at hl 2 rfl) ?_
            refine x_iast hx hb hK hP hD hS h66 st1.ex rfl (by omega) (by omega) d_M_expression_96 (fun H locs hP hD hS => ?_)
            have hP : va_P (xD G) CL (w63.set 2 (a.aK, aI G 60 (upd (rI st1.Kd) st1.ex (nI kd)))) H := hP
            have hD : va_D A (w63.set 2 (a.aK, aI G 60 (upd (rI st1.Kd) st1.ex (nI kd)))) := hD
            obtain ⟨w68, e_w68⟩ : ∃ zz : va_W, zz = w63.set 2 (a.aK, aI G 60 (upd (rI st1.Kd) st1.ex (nI kd))) := ⟨_, rfl⟩
            rw [← e_w68] at hP hD
            have h69 : w68[2]? = some (a.aK, aI G 60 (upd (rI st1.Kd) st1.ex (nI kd))) := by rw [e_w68]; exact w_eq h66
            have E70 : w68 = mW G a (⟨st1.th, st1.ex, st1.va, st1.co, st1.sv, st1.kn, st1.kc, st1.S, (va_up st1.Kd st1.ex kd), st1.In, st1.Hw, st1.Fr, st1.Gn, st1.R, st1.L, st1.T, st1.O, st1.B, st1.W⟩ : MS) := by rw [e_w68, E1, up_rI]; rfl
            have h71 : w68[0]? = some (a.m, .inr (5, [.int (nI st1.th), .ref a.aS, .ref a.aK, .ref a.aI, .int (nI st1.ex), .ref a.aH, .ref a.aF, .ref a.aG, .int (nI st1.va), .ref a.aR, .int (nI st1.co), .ref a.aL, .ref a.aT, .ref a.aO, .ref a.aB, .ref a.aW, .int (nI st1.sv), .int (nI st1.kn), .int (nI st1.kc)])) := by rw [E70]; rfl
            have h72 : w68[1]? = some (a.aS, aI G 3600 (rI st1.S)) := by rw [E70]; rfl
            have h73 : w68[2]? = some (a.aK, aI G 60 (rI (va_up st1.Kd st1.ex kd))) := by rw [E70]; rfl
            have h74 : w68[8]? = some (a.aL, aI G 60 (rI st1.L)) := by rw [E70]; rfl
            refine lv_iconst (v := (nI 0)) hx hb d_M_expression_97 (by decide) ?_
            refine lv_istore (lv' := [(6, .int (nI 0)), (5, .int (nI nn)), (0, .ref a.m), (1, .int (nI kd)), (2, .int x1), (3, .int x2), (4, .int x3)]) hx hb d_M_expression_98 hl (by decide) rfl (fun ls hl => ?_)
            have z9 : w68 = (w68.set 1 (a.aS, aI G 3600 (rI (ovb 0 (60 * st1.ex) st1.S st1.L)))) := by rw [ovb_0]; exact (w_self h72).symm
            rw [z9] at hP hD
            have loop : ∀ (n i : Nat), i + n = 60 → ∀ (H : Heap) (locs : List Loc) (ls : Array Slot), (va_P (xD G) CL (w68.set 1 (a.aS, aI G 3600 (rI (ovb i (60 * st1.ex) st1.S st1.L)))) H) → (va_D A (w68.set 1 (a.aS, aI G 3600 (rI (ovb i (60 * st1.ex) st1.S st1.L))))) → (va_S A s.heap H locs) → lv_has ls 7 [(6, .int (nI i)), (5, .int (nI nn)), (0, .ref a.m), (1, .int (nI kd)), (2, .int x1), (3, .int x2), (4, .int x3)] → W p l e (headSpec (cw_M_expression :: TW) { frames := 7, cells := 0, slots := 0, locals := 182 }).room s m ([.ref a.m, .int (nI kd), .int x1, .int x2, .int x3] : List Value).toArray below meth c H locs 0 0 (MQ below (qI G A (fun r w9 => ∃ st' : MS, w9 = mW G a st' ∧ ((st'.th = 0 ∧ r = nI E.length ∧ ∃ kq, (nI kd) = nI kq ∧ wfd kq E.length x1 x2 x3 ∧ room kq V E K x1 x2 x3 ∧ MRel st' (exS kq V E K inp x1 x2 x3).1 (exS kq V E K inp x1 x2 x3).2.1 (exS kq V E K inp x1 x2 x3).2.2.1 (exS kq V E K inp x1 x2 x3).2.2.2 w wV wC) ∨ (st'.th = 1 ∧ (¬ wfx E.length (nI kd) x1 x2 x3) ∧ MRel st' V E K inp w wV wC) ∨ (st'.th = 2 ∧ (∃ kq, (nI kd) = nI kq ∧ wfd kq E.length x1 x2 x3 ∧ ¬ room kq V E K x1 x2 x3) ∧ MRel st' V E K inp w wV wC)))) ([.ref a.m, .int (nI kd), .int x1, .int x2, .int x3] : List Value).toArray s 0 0 A) (F0 m 100 ls []) := by
              intro n
              induction n with
              | zero =>
                intro i hi H locs ls hP hD hS hl
                refine lv_iload hx hb d_M_expression_100 (lv_at hl 0 rfl) ?_
                refine lv_bipush (v := (nI 60)) hx hb d_M_expression_102 (by decide) ?_
                refine x_ge hx hb i 60 rfl rfl (by omega) (by omega) (tgt := 135) d_M_expression_104 (by decide) (fun c75 => ?_) (fun c75 => ?_)
                · have i0 : i = 60 := by omega
                  rw [i0] at hP hD
                  obtain ⟨w76, e_w76⟩ : ∃ zz : va_W, zz = (w68.set 1 (a.aS, aI G 3600 (rI (ovb 60 (60 * st1.ex) st1.S st1.L)))) := ⟨_, rfl⟩
                  rw [← e_w76] at hP hD
                  have h77 : w76[0]? = some (a.m, .inr (5, [.int (nI st1.th), .ref a.aS, .ref a.aK, .ref a.aI, .int (nI st1.ex), .ref a.aH, .ref a.aF, .ref a.aG, .int (nI st1.va), .ref a.aR, .int (nI st1.co), .ref a.aL, .ref a.aT, .ref a.aO, .ref a.aB, .ref a.aW, .int (nI st1.sv), .int (nI st1.kn), .int (nI st1.kc)])) := by rw [e_w76]; exact w_ne (by decide) h71
                  have h78 : w76[1]? = some (a.aS, aI G 3600 (rI (ovb 60 (60 * st1.ex) st1.S st1.L))) := by rw [e_w76]; exact w_eq h72
                  have h79 : w76[2]? = some (a.aK, aI G 60 (rI (va_up st1.Kd st1.ex kd))) := by rw [e_w76]; exact w_ne (by decide) h73
                  have h80 : w76[8]? = some (a.aL, aI G 60 (rI st1.L)) := by rw [e_w76]; exact w_ne (by decide) h74
                  have E81 : w76 = mW G a (⟨st1.th, st1.ex, st1.va, st1.co, st1.sv, st1.kn, st1.kc, (ovb 60 (60 * st1.ex) st1.S st1.L), (va_up st1.Kd st1.ex kd), st1.In, st1.Hw, st1.Fr, st1.Gn, st1.R, st1.L, st1.T, st1.O, st1.B, st1.W⟩ : MS) := by rw [e_w76, E70]; rfl
                  have h82 : w76[0]? = some (a.m, .inr (5, [.int (nI st1.th), .ref a.aS, .ref a.aK, .ref a.aI, .int (nI st1.ex), .ref a.aH, .ref a.aF, .ref a.aG, .int (nI st1.va), .ref a.aR, .int (nI st1.co), .ref a.aL, .ref a.aT, .ref a.aO, .ref a.aB, .ref a.aW, .int (nI st1.sv), .int (nI st1.kn), .int (nI st1.kc)])) := by rw [E81]; rfl
                  refine lv_aload_n hx hb d_M_expression_135 rfl (lv_at hl 2 rfl) ?_
                  refine lv_dup hx hb d_M_expression_136 rfl ?_
                  refine va_get (D := xD G) (ci := 5) (C := R_M) (T := F_M) (N := 19) hx hb ht in_M hown hK hP 0 h82 rfl 4 (by decide) (ht _ k_fl_M_53) (fun _ h9 => h9) rfl d_M_expression_137 ?_
                  refine lv_iconst (v := (nI 1)) hx hb d_M_expression_140 (by decide) ?_
                  refine lv_iadd hx hb d_M_expression_141 ?_
                  refine x_top (nI (st1.ex + 1)) (nI_add _ _) ?_
                  refine va_put (D := xD G) (ci := 5) (v := .int (nI (st1.ex + 1))) (ty := .int) (C := R_M) (T := F_M) (N := 19) hx hb ht in_M ft_M fo_M nm_M hown hK hP hD hS 0 h82 rfl 4 (by decide) (ht _ k_fl_M_53) (fun _ h9 => h9) rfl (by decide +kernel) rfl rfl (Nat.le_of_ble_eq_true rfl) d_M_expression_142 (fun H locs hP hD hS => ?_)
                  have hP : va_P (xD G) CL (w76.set 0 (a.m, .inr (5, [.int (nI st1.th), .ref a.aS, .ref a.aK, .ref a.aI, .int (nI (st1.ex + 1)), .ref a.aH, .ref a.aF, .ref a.aG, .int (nI st1.va), .ref a.aR, .int (nI st1.co), .ref a.aL, .ref a.aT, .ref a.aO, .ref a.aB, .ref a.aW, .int (nI st1.sv), .int (nI st1.kn), .int (nI st1.kc)]))) H := hP
                  have hD : va_D A (w76.set 0 (a.m, .inr (5, [.int (nI st1.th), .ref a.aS, .ref a.aK, .ref a.aI, .int (nI (st1.ex + 1)), .ref a.aH, .ref a.aF, .ref a.aG, .int (nI st1.va), .ref a.aR, .int (nI st1.co), .ref a.aL, .ref a.aT, .ref a.aO, .ref a.aB, .ref a.aW, .int (nI st1.sv), .int (nI st1.kn), .int (nI st1.kc)]))) := hD
                  obtain ⟨w83, e_w83⟩ : ∃ zz : va_W, zz = w76.set 0 (a.m, .inr (5, [.int (nI st1.th), .ref a.aS, .ref a.aK, .ref a.aI, .int (nI (st1.ex + 1)), .ref a.aH, .ref a.aF, .ref a.aG, .int (nI st1.va), .ref a.aR, .int (nI st1.co), .ref a.aL, .ref a.aT, .ref a.aO, .ref a.aB, .ref a.aW, .int (nI st1.sv), .int (nI st1.kn), .int (nI st1.kc)])) := ⟨_, rfl⟩
                  rw [← e_w83] at hP hD
                  have h84 : w83[0]? = some (a.m, .inr (5, [.int (nI st1.th), .ref a.aS, .ref a.aK, .ref a.aI, .int (nI (st1.ex + 1)), .ref a.aH, .ref a.aF, .ref a.aG, .int (nI st1.va), .ref a.aR, .int (nI st1.co), .ref a.aL, .ref a.aT, .ref a.aO, .ref a.aB, .ref a.aW, .int (nI st1.sv), .int (nI st1.kn), .int (nI st1.kc)])) := by rw [e_w83]; exact w_eq h82
                  have E85 : w83 = mW G a (⟨st1.th, st1.ex + 1, st1.va, st1.co, st1.sv, st1.kn, st1.kc, (ovb 60 (60 * st1.ex) st1.S st1.L), (va_up st1.Kd st1.ex kd), st1.In, st1.Hw, st1.Fr, st1.Gn, st1.R, st1.L, st1.T, st1.O, st1.B, st1.W⟩ : MS) := by rw [e_w83, E81]; rfl
                  have h86 : w83[0]? = some (a.m, .inr (5, [.int (nI st1.th), .ref a.aS, .ref a.aK, .ref a.aI, .int (nI (st1.ex + 1)), .ref a.aH, .ref a.aF, .ref a.aG, .int (nI st1.va), .ref a.aR, .int (nI st1.co), .ref a.aL, .ref a.aT, .ref a.aO, .ref a.aB, .ref a.aW, .int (nI st1.sv), .int (nI st1.kn), .int (nI st1.kc)])) := by rw [E85]; rfl
                  refine lv_aload_n hx hb d_M_expression_145 rfl (lv_at hl 2 rfl) ?_
                  refine va_get (D := xD G) (ci := 5) (C := R_M) (T := F_M) (N := 19) hx hb ht in_M hown hK hP 0 h86 rfl 4 (by decide) (ht _ k_fl_M_53) (fun _ h9 => h9) rfl d_M_expression_146 ?_
                  refine lv_iconst (v := (nI 1)) hx hb d_M_expression_149 (by decide) ?_
                  refine lv_isub hx hb d_M_expression_150 ?_
                  refine x_top (nI ((st1.ex + 1) - 1)) (pk_sub (by omega)) ?_
                  have rel : MRel (⟨st1.th, st1.ex + 1, st1.va, st1.co, st1.sv, st1.kn, st1.kc, (ovb 60 (60 * st1.ex) st1.S st1.L), (va_up st1.Kd st1.ex kd), st1.In, st1.Hw, st1.Fr, st1.Gn, st1.R, st1.L, st1.T, st1.O, st1.B, st1.W⟩ : MS) (exS kd V E K inp x1 x2 x3).1 (exS kd V E K inp x1 x2 x3).2.1 (exS kd V E K inp x1 x2 x3).2.2.1 (exS kd V E K inp x1 x2 x3).2.2.2 w wV wC := by
                    by_cases k1 : kd = 1
                    · subst k1
                      have l1 : (V ++ [((1 : Nat), zr, zr, (0 : Nat))]).length = V.length + 1 := by simp
                      have l2 : (wkS 1 E (V, K) x1 x2 x3).1.1.length = V.length + 1 := l1
                      refine ⟨rel1.1, rel1.2.1, ?_, rel1.2.2.2⟩
                      exact RE.add (kd := 1) (i := V.length) (f := unit V.length) rel1.2.2.1 L1 bd1 sup1 ⟨fun _ => by omega, fun _ => rfl⟩ (fun _ => by rw [hx1]; exact in1 rfl) (by decide) (show V.length < (V ++ [((1 : Nat), zr, zr, (0 : Nat))]).length by omega)
                    · have e5 : wkS kd E (V, K) x1 x2 x3 = mkSum kd E (V, K) x1 x2 x3 := by unfold wkS; rw [if_neg k1]
                      have e6 : exS kd V E K inp x1 x2 x3 = ((mkSum kd E (V, K) x1 x2 x3).1.1, E ++ [((mkSum kd E (V, K) x1 x2 x3).2, 0)], (mkSum kd E (V, K) x1 x2 x3).1.2, inp) := by unfold exS; rw [if_neg k1]
                      rw [e5] at rel1 L1 bd1 sup1
                      rw [e6]
                      have re9 := RE.add (kd := kd) (i := 0) (f := (mkSum kd E (V, K) x1 x2 x3).2) rel1.2.2.1 L1 bd1 sup1 ⟨fun q => absurd q k1, fun q => absurd rfl q⟩ (fun q => absurd rfl q) k9 (by have := rel1.2.1.2.1; omega)
                      rw [if_neg k1] at re9
                      exact ⟨rel1.1, rel1.2.1, re9, rel1.2.2.2⟩
                  exact x_iret hx hb hr hlocks hS hP hD (Nat.le_of_ble_eq_true rfl) (Nat.le_of_ble_eq_true rfl) d_M_expression_151 (⟨_, E85, Or.inl ⟨th1, by rw [Nat.add_sub_cancel, hx1], kd, rfl, hf, rm9, rel⟩⟩)
                · exact False.elim (by omega)
              | succ n ih =>
                intro i hi H locs ls hP hD hS hl
                refine lv_iload hx hb d_M_expression_100 (lv_at hl 0 rfl) ?_
                refine lv_bipush (v := (nI 60)) hx hb d_M_expression_102 (by decide) ?_
                refine x_ge hx hb i 60 rfl rfl (by omega) (by omega) (tgt := 135) d_M_expression_104 (by decide) (fun c87 => ?_) (fun c87 => ?_)
                · exact False.elim (by omega)
                · obtain ⟨w88, e_w88⟩ : ∃ zz : va_W, zz = (w68.set 1 (a.aS, aI G 3600 (rI (ovb i (60 * st1.ex) st1.S st1.L)))) := ⟨_, rfl⟩
                  rw [← e_w88] at hP hD
                  have h89 : w88[0]? = some (a.m, .inr (5, [.int (nI st1.th), .ref a.aS, .ref a.aK, .ref a.aI, .int (nI st1.ex), .ref a.aH, .ref a.aF, .ref a.aG, .int (nI st1.va), .ref a.aR, .int (nI st1.co), .ref a.aL, .ref a.aT, .ref a.aO, .ref a.aB, .ref a.aW, .int (nI st1.sv), .int (nI st1.kn), .int (nI st1.kc)])) := by rw [e_w88]; exact w_ne (by decide) h71
                  have h90 : w88[1]? = some (a.aS, aI G 3600 (rI (ovb i (60 * st1.ex) st1.S st1.L))) := by rw [e_w88]; exact w_eq h72
                  have h91 : w88[2]? = some (a.aK, aI G 60 (rI (va_up st1.Kd st1.ex kd))) := by rw [e_w88]; exact w_ne (by decide) h73
                  have h92 : w88[8]? = some (a.aL, aI G 60 (rI st1.L)) := by rw [e_w88]; exact w_ne (by decide) h74
                  refine lv_aload_n hx hb d_M_expression_107 rfl (lv_at hl 2 rfl) ?_
                  refine va_get (D := xD G) (ci := 5) (C := R_M) (T := F_M) (N := 19) hx hb ht in_M hown hK hP 0 h89 rfl 1 (by decide) (ht _ k_fl_M_7) (fun _ h9 => h9) rfl d_M_expression_108 ?_
                  refine lv_bipush (v := (nI 60)) hx hb d_M_expression_111 (by decide) ?_
                  refine lv_aload_n hx hb d_M_expression_113 rfl (lv_at hl 2 rfl) ?_
                  refine va_get (D := xD G) (ci := 5) (C := R_M) (T := F_M) (N := 19) hx hb ht in_M hown hK hP 0 h89 rfl 4 (by decide) (ht _ k_fl_M_53) (fun _ h9 => h9) rfl d_M_expression_114 ?_
                  refine lv_imul hx hb d_M_expression_117 ?_
                  refine x_top (nI (60 * st1.ex)) (pk_mul _ _) ?_
                  refine lv_iload hx hb d_M_expression_118 (lv_at hl 0 rfl) ?_
                  refine lv_iadd hx hb d_M_expression_120 ?_
                  refine x_top (nI ((60 * st1.ex) + i)) (nI_add _ _) ?_
                  refine lv_aload_n hx hb d_M_expression_121 rfl (lv_at hl 2 rfl) ?_
                  refine va_get (D := xD G) (ci := 5) (C := R_M) (T := F_M) (N := 19) hx hb ht in_M hown hK hP 0 h89 rfl 11 (by decide) (ht _ k_fl_M_35) (fun _ h9 => h9) rfl d_M_expression_122 ?_
                  refine lv_iload hx hb d_M_expression_125 (lv_at hl 0 rfl) ?_
                  refine x_iald hx hb hK hP h92 i rfl (by omega) (by omega) d_M_expression_127 ?_
                  refine x_top (nI (st1.L i)) (rfl) ?_
                  refine x_iast hx hb hK hP hD hS h90 ((60 * st1.ex) + i) rfl (by omega) (by omega) d_M_expression_128 (fun H locs hP hD hS => ?_)
                  have hP : va_P (xD G) CL (w88.set 1 (a.aS, aI G 3600 (upd (rI (ovb i (60 * st1.ex) st1.S st1.L)) ((60 * st1.ex) + i) (nI (st1.L i))))) H := hP
                  have hD : va_D A (w88.set 1 (a.aS, aI G 3600 (upd (rI (ovb i (60 * st1.ex) st1.S st1.L)) ((60 * st1.ex) + i) (nI (st1.L i))))) := hD
                  obtain ⟨w93, e_w93⟩ : ∃ zz : va_W, zz = w88.set 1 (a.aS, aI G 3600 (upd (rI (ovb i (60 * st1.ex) st1.S st1.L)) ((60 * st1.ex) + i) (nI (st1.L i)))) := ⟨_, rfl⟩
                  rw [← e_w93] at hP hD
                  have h94 : w93[1]? = some (a.aS, aI G 3600 (upd (rI (ovb i (60 * st1.ex) st1.S st1.L)) ((60 * st1.ex) + i) (nI (st1.L i)))) := by rw [e_w93]; exact w_eq h90
                  have eN9 : w93 = (w68.set 1 (a.aS, aI G 3600 (rI (ovb (i + 1) (60 * st1.ex) st1.S st1.L)))) := by rw [e_w93, e_w88, List.set_set, up_rI]; exact congrArg (fun q9 => w68.set 1 (a.aS, aI G 3600 (rI q9))) ovb_s
                  refine lv_iinc (v := nI (i + 1)) (lv' := [(6, .int (nI (i + 1))), (5, .int (nI nn)), (0, .ref a.m), (1, .int (nI kd)), (2, .int x1), (3, .int x2), (4, .int x3)]) hx hb d_M_expression_129 hl (k := 0) rfl (n_inc _) (by decide) rfl (fun ls hl => ?_)
                  refine lv_goto (tgt := 100) hx hb d_M_expression_132 (by decide) ?_
                  exact ih (i + 1) (by omega) H locs ls (by rw [← eN9]; exact hP) (by rw [← eN9]; exact hD) hS (lv_sub hl [0, 1, 2, 3, 4, 5, 6] rfl)
            exact loop 60 0 (by omega) H locs ls hP hD hS (lv_sub hl [0, 1, 2, 3, 4, 5, 6] rfl)
          · refine lv_aload_n hx hb d_M_expression_72 rfl (lv_at hl 1 rfl) ?_
            refine lv_iconst (v := (nI 2)) hx hb d_M_expression_73 (by decide) ?_
            refine x_calli (va_runV (As := [.int (nI 2)]) (rest := []) ⟨hx, hb, hml, hown, ht⟩ (c_M_raise l G A w11 a (⟨0, st.ex, st.va, st.co, st.sv, st.kn, st.kc, st.S, st.Kd, st.In, st.Hw, st.Fr, st.Gn, st.R, st.L, st.T, O9, st.B, st.W⟩ : MS) E13 2) (cwV 1 ht (TW_V k_ml_M_117 k_im_M_raise k_se_M_raise k_in_M k_code_M_raise) rfl rfl rfl hv_M_raise ⟨Nat.le_of_ble_eq_true rfl, Nat.le_of_ble_eq_true rfl⟩) ⟨x_blind, va_recv hK hP rfl h14, x_pre hE hA hS hP hD⟩ rfl rfl hl.1 rfl (lv_room (Nat.le_of_ble_eq_true rfl)) d_M_expression_74 ⟨Nat.le_of_ble_eq_true rfl, Nat.le_of_ble_eq_true rfl⟩) hS (fun r97 w96 H locs q95 hP hD hS => ?_)
            obtain ⟨rfl, q95⟩ := q95
            have E98 : w96 = mW G a (⟨2, st.ex, st.va, st.co, st.sv, st.kn, st.kc, st.S, st.Kd, st.In, st.Hw, st.Fr, st.Gn, st.R, st.L, st.T, O9, st.B, st.W⟩ : MS) := q95
            have h99 : w96[0]? = some (a.m, .inr (5, [.int (nI 2), .ref a.aS, .ref a.aK, .ref a.aI, .int (nI st.ex), .ref a.aH, .ref a.aF, .ref a.aG, .int (nI st.va), .ref a.aR, .int (nI st.co), .ref a.aL, .ref a.aT, .ref a.aO, .ref a.aB, .ref a.aW, .int (nI st.sv), .int (nI st.kn), .int (nI st.kc)])) := by rw [E98]; rfl
            exact x_iret hx hb hr hlocks hS hP hD (Nat.le_of_ble_eq_true rfl) (Nat.le_of_ble_eq_true rfl) d_M_expression_77 (⟨_, E98, Or.inr (Or.inr (⟨rfl, ⟨kd, rfl, hf, fun q => by obtain ⟨q1, q2, q3⟩ := q; omega⟩, hM⟩))⟩)
  · refine x_if_ne hx hb 0 rfl (by decide) (tgt := 23) d_M_expression_14 (by decide) (fun c100 => ?_) (fun c100 => ?_)
    · exact False.elim (by omega)
    refine lv_aload_n hx hb d_M_expression_17 rfl (lv_at hl 0 rfl) ?_
    refine lv_iconst (v := (nI 1)) hx hb d_M_expression_18 (by decide) ?_
    refine x_calli (va_runV (As := [.int (nI 1)]) (rest := []) ⟨hx, hb, hml, hown, ht⟩ (c_M_raise l G A w2 a (⟨0, st.ex, st.va, st.co, st.sv, st.kn, st.kc, st.S, st.Kd, st.In, st.Hw, st.Fr, st.Gn, st.R, st.L, st.T, st.O, st.B, st.W⟩ : MS) E4 1) (cwV 1 ht (TW_V k_ml_M_117 k_im_M_raise k_se_M_raise k_in_M k_code_M_raise) rfl rfl rfl hv_M_raise ⟨Nat.le_of_ble_eq_true rfl, Nat.le_of_ble_eq_true rfl⟩) ⟨x_blind, va_recv hK hP rfl h5, x_pre hE hA hS hP hD⟩ rfl rfl hl.1 rfl (lv_room (Nat.le_of_ble_eq_true rfl)) d_M_expression_19 ⟨Nat.le_of_ble_eq_true rfl, Nat.le_of_ble_eq_true rfl⟩) hS (fun r103 w102 H locs q101 hP hD hS => ?_)
    obtain ⟨rfl, q101⟩ := q101
    have E104 : w102 = mW G a (⟨1, st.ex, st.va, st.co, st.sv, st.kn, st.kc, st.S, st.Kd, st.In, st.Hw, st.Fr, st.Gn, st.R, st.L, st.T, st.O, st.B, st.W⟩ : MS) := q101
    have h105 : w102[0]? = some (a.m, .inr (5, [.int (nI 1), .ref a.aS, .ref a.aK, .ref a.aI, .int (nI st.ex), .ref a.aH, .ref a.aF, .ref a.aG, .int (nI st.va), .ref a.aR, .int (nI st.co), .ref a.aL, .ref a.aT, .ref a.aO, .ref a.aB, .ref a.aW, .int (nI st.sv), .int (nI st.kn), .int (nI st.kc)])) := by rw [E104]; rfl
    exact x_iret hx hb hr hlocks hS hP hD (Nat.le_of_ble_eq_true rfl) (Nat.le_of_ble_eq_true rfl) d_M_expression_22 (⟨_, E104, Or.inr (Or.inl ⟨rfl, by rw [← hex]; exact hf, hM⟩)⟩)

set_option maxHeartbeats 4000000 in
set_option maxRecDepth 100000 in
theorem m_claim (l : Launch) (G : xG) (A : Nat → Prop) (ws : va_W) (a : MA) (st : MS) (hw : ws = mW G a st) (V : List VV) (E : List EE) (K : List KK) (inp : Nat) (w : Nat → Nat) (wV wC : Nat) (hM : MRel st V E K inp w wV wC) (hI : okI V E K inp wV wC) (x0 x1 x2 : Int32) : Met l y_M_claim (cw_M_claim :: TW) { frames := 7, cells := 0, slots := 0, locals := 182 } (va_Pc [.ref a.m, .int x0, .int x1, .int x2] (x_P G A ws)) (qI G A (fun r w9 => ∃ st' : MS, w9 = mW G a st' ∧ ((st'.th = 0 ∧ r = nI K.length ∧ clw E.length x0 x1 x2 ∧ K.length < 80 ∧ MRel st' V E (K ++ [clK E x0 x1 x2]) inp w wV wC) ∨ (st'.th = 1 ∧ (¬ clw E.length x0 x1 x2) ∧ MRel st' V E K inp w wV wC) ∨ (st'.th = 2 ∧ (clw E.length x0 x1 x2 ∧ ¬ K.length < 80) ∧ MRel st' V E K inp w wV wC)))) 0 0 A := by
  refine Met.ofW (cc := b_M_claim) (maxL := 4) (ret := (some .int)) (by decide) rfl ?_
  intro p e s m args below meth c s₁ B hml hv
  obtain ⟨rfl, hE, hA, hP, hD⟩ := hv
  have hx := B.exec
  have hb := B.bytes
  have hr := B.returns
  have ht : ∀ w ∈ TW, w.before _ s = true := fun w h => atoms_spec (ws := cw_M_claim :: TW) B.pre w (List.mem_cons_of_mem _ h)
  have hown : s.vm.findClass R_M = some m.cls := findClass_of_methodNamed B.named
  have hlocks := B.notSynchronized
  have hK := hE.1
  have hS : va_S A s.heap s.heap [] := va_S.rf
  have hl := lv_entry ([.ref a.m, .int x0, .int x1, .int x2]) (n := 4) (Nat.le_of_ble_eq_true rfl)
  rw [lg_entry_eq]
  generalize (lg_sl ([.ref a.m, .int x0, .int x1, .int x2]) ++ List.replicate (4 - (lg_sl ([.ref a.m, .int x0, .int x1, .int x2])).length) Slot.unset).toArray = ls at hl ⊢
  have hl : lv_has ls 4 [(0, .ref a.m), (1, .int x0), (2, .int x1), (3, .int x2)] := hl
  obtain ⟨i1, i2, i3, i4, i5, i6, i7, i8, i9⟩ := id hI
  have hco := hM.1.1
  have hva := hM.2.1.1
  have hex := hM.2.2.1.1
  have hS9 : ∀ e9 j, e9 < E.length → j < 60 → st.S (60 * e9 + j) = sE E e9 j := fun e9 j h1 h2 => (hM.2.2.1.2.1 e9 j h1 h2).1
  have hS8 : ∀ e9 j, e9 < E.length → j < 60 → sE E e9 j < 97 := fun e9 j h1 h2 => (hM.2.2.1.2.1 e9 j h1 h2).2.1
  have hS6 : ∀ e9, e9 < E.length → ∀ j, j < 60 → st.S (60 * e9 + j) < 97 := fun e9 h1 j h2 => by rw [hS9 e9 j h1 h2]; exact hS8 e9 j h1 h2
  have hS7 : ∀ e9 j, e9 < E.length → V.length ≤ j → j < 60 → sE E e9 j = 0 := fun e9 j h1 h3 h2 => (hM.2.2.1.2.1 e9 j h1 h2).2.2 h3
  have hv1 := hM.2.1.2.1
  have h1 : ws[0]? = some (a.m, .inr (5, [.int (nI st.th), .ref a.aS, .ref a.aK, .ref a.aI, .int (nI st.ex), .ref a.aH, .ref a.aF, .ref a.aG, .int (nI st.va), .ref a.aR, .int (nI st.co), .ref a.aL, .ref a.aT, .ref a.aO, .ref a.aB, .ref a.aW, .int (nI st.sv), .int (nI st.kn), .int (nI st.kc)])) := by rw [hw]; rfl
  refine lv_aload_n hx hb d_M_claim_0 rfl (lv_at hl 0 rfl) ?_
  refine lv_iconst (v := (nI 0)) hx hb d_M_claim_1 (by decide) ?_
  refine va_put (D := xD G) (ci := 5) (v := .int (nI 0)) (ty := .int) (C := R_M) (T := F_M) (N := 19) hx hb ht in_M ft_M fo_M nm_M hown hK hP hD hS 0 h1 rfl 0 (by decide) (ht _ k_fl_M_50) (fun _ h9 => h9) rfl (by decide +kernel) rfl rfl (Nat.le_of_ble_eq_true rfl) d_M_claim_2 (fun H locs hP hD hS => ?_)
  have hP : va_P (xD G) CL (ws.set 0 (a.m, .inr (5, [.int (nI 0), .ref a.aS, .ref a.aK, .ref a.aI, .int (nI st.ex), .ref a.aH, .ref a.aF, .ref a.aG, .int (nI st.va), .ref a.aR, .int (nI st.co), .ref a.aL, .ref a.aT, .ref a.aO, .ref a.aB, .ref a.aW, .int (nI st.sv), .int (nI st.kn), .int (nI st.kc)]))) H := hP
  have hD : va_D A (ws.set 0 (a.m, .inr (5, [.int (nI 0), .ref a.aS, .ref a.aK, .ref a.aI, .int (nI st.ex), .ref a.aH, .ref a.aF, .ref a.aG, .int (nI st.va), .ref a.aR, .int (nI st.co), .ref a.aL, .ref a.aT, .ref a.aO, .ref a.aB, .ref a.aW, .int (nI st.sv), .int (nI st.kn), .int (nI st.kc)]))) := hD
  obtain ⟨w2, e_w2⟩ : ∃ zz : va_W, zz = ws.set 0 (a.m, .inr (5, [.int (nI 0), .ref a.aS, .ref a.aK, .ref a.aI, .int (nI st.ex), .ref a.aH, .ref a.aF, .ref a.aG, .int (nI st.va), .ref a.aR, .int (nI st.co), .ref a.aL, .ref a.aT, .ref a.aO, .ref a.aB, .ref a.aW, .int (nI st.sv), .int (nI st.kn), .int (nI st.kc)])) := ⟨_, rfl⟩
  rw [← e_w2] at hP hD
  have h3 : w2[0]? = some (a.m, .inr (5, [.int (nI 0), .ref a.aS, .ref a.aK, .ref a.aI, .int (nI st.ex), .ref a.aH, .ref a.aF, .ref a.aG, .int (nI st.va), .ref a.aR, .int (nI st.co), .ref a.aL, .ref a.aT, .ref a.aO, .ref a.aB, .ref a.aW, .int (nI st.sv), .int (nI st.kn), .int (nI st.kc)])) := by rw [e_w2]; exact w_eq h1
  have E4 : w2 = mW G a (⟨0, st.ex, st.va, st.co, st.sv, st.kn, st.kc, st.S, st.Kd, st.In, st.Hw, st.Fr, st.Gn, st.R, st.L, st.T, st.O, st.B, st.W⟩ : MS) := by rw [e_w2, hw]; rfl
  have h5 : w2[0]? = some (a.m, .inr (5, [.int (nI 0), .ref a.aS, .ref a.aK, .ref a.aI, .int (nI st.ex), .ref a.aH, .ref a.aF, .ref a.aG, .int (nI st.va), .ref a.aR, .int (nI st.co), .ref a.aL, .ref a.aT, .ref a.aO, .ref a.aB, .ref a.aW, .int (nI st.sv), .int (nI st.kn), .int (nI st.kc)])) := by rw [E4]; rfl
  have h6 : w2[8]? = some (a.aL, aI G 60 (rI st.L)) := by rw [E4]; rfl
  have h7 : w2[9]? = some (a.aT, aI G 60 (rI st.T)) := by rw [E4]; rfl
  have h8 : w2[10]? = some (a.aO, aI G 60 (rI st.O)) := by rw [E4]; rfl
  refine lv_iload_n hx hb d_M_claim_5 rfl (lv_at hl 1 rfl) ?_
  refine lv_iconst (v := (nI 0)) hx hb d_M_claim_6 (by decide) ?_
  refine lv_iconst (v := (nI 1)) hx hb d_M_claim_7 (by decide) ?_
  refine x_calli (va_runS (As := [.int x0, .int (nI 0), .int (nI 1)]) (rest := []) ⟨hx, hb, hml, hown, ht⟩ (c_M_in l G A w2 x0 (nI 0) (nI 1)) (va_cwS 3 ht (TW_S k_ml_M_56 k_st_M_in k_in_M k_code_M_in) rfl rfl rfl hv_M_in.2 ⟨Nat.le_of_ble_eq_true rfl, Nat.le_of_ble_eq_true rfl⟩) ⟨x_blind, x_pre hE hA hS hP hD⟩ rfl rfl hl.1 rfl (lv_room (Nat.le_of_ble_eq_true rfl)) d_M_claim_8 ⟨Nat.le_of_ble_eq_true rfl, Nat.le_of_ble_eq_true rfl⟩) hS (fun r11 w10 H locs q9 hP hD hS => ?_)
  obtain ⟨rfl, ⟨rfl, m12⟩ | ⟨rfl, m12⟩⟩ := q9
  · refine x_if_eq hx hb 1 rfl (by decide) (tgt := 34) d_M_claim_11 (by decide) (fun c13 => ?_) (fun c13 => ?_)
    · exact False.elim (by omega)
    obtain ⟨kd, hk, rfl⟩ := (in_mdn (by decide)).mp m12
    have hk9 : kd = 0 ∨ kd = 1 := by omega
    rcases hk9 with rfl | rfl
    · refine lv_aload_n hx hb d_M_claim_14 rfl (lv_at hl 0 rfl) ?_
      refine lv_iload_n hx hb d_M_claim_15 rfl (lv_at hl 2 rfl) ?_
      refine x_calli (va_runV (As := [.int x1]) (rest := []) ⟨hx, hb, hml, hown, ht⟩ (c_M_made l G A w2 a (⟨0, st.ex, st.va, st.co, st.sv, st.kn, st.kc, st.S, st.Kd, st.In, st.Hw, st.Fr, st.Gn, st.R, st.L, st.T, st.O, st.B, st.W⟩ : MS) E4 (show st.ex ≤ 60 by omega) x1) (cwV 1 ht (TW_V k_ml_M_86 k_im_M_made k_se_M_made k_in_M k_code_M_made) rfl rfl rfl hv_M_made ⟨Nat.le_of_ble_eq_true rfl, Nat.le_of_ble_eq_true rfl⟩) ⟨x_blind, va_recv hK hP rfl h5, x_pre hE hA hS hP hD⟩ rfl rfl hl.1 rfl (lv_room (Nat.le_of_ble_eq_true rfl)) d_M_claim_16 ⟨Nat.le_of_ble_eq_true rfl, Nat.le_of_ble_eq_true rfl⟩) hS (fun r16 w15 H locs q14 hP hD hS => ?_)
      obtain ⟨rfl, ⟨rfl, m17⟩ | ⟨rfl, m17⟩⟩ := q14
      · have m17 : md E.length x1 := by rw [← hex]; exact m17
        refine x_if_eq hx hb 1 rfl (by decide) (tgt := 34) d_M_claim_19 (by decide) (fun c18 => ?_) (fun c18 => ?_)
        · exact False.elim (by omega)
        obtain ⟨ja, ga, rfl⟩ := id m17
        refine lv_iload_n hx hb d_M_claim_22 rfl (lv_at hl 1 rfl) ?_
        refine x_if_ne hx hb 0 rfl (by decide) (tgt := 40) d_M_claim_23 (by decide) (fun c19 => ?_) (fun c19 => ?_)
        · exact False.elim (by omega)
        refine lv_aload_n hx hb d_M_claim_26 rfl (lv_at hl 0 rfl) ?_
        refine lv_iload_n hx hb d_M_claim_27 rfl (lv_at hl 3 rfl) ?_
        refine x_calli (va_runV (As := [.int x2]) (rest := []) ⟨hx, hb, hml, hown, ht⟩ (c_M_made l G A w2 a (⟨0, st.ex, st.va, st.co, st.sv, st.kn, st.kc, st.S, st.Kd, st.In, st.Hw, st.Fr, st.Gn, st.R, st.L, st.T, st.O, st.B, st.W⟩ : MS) E4 (show st.ex ≤ 60 by omega) x2) (cwV 1 ht (TW_V k_ml_M_86 k_im_M_made k_se_M_made k_in_M k_code_M_made) rfl rfl rfl hv_M_made ⟨Nat.le_of_ble_eq_true rfl, Nat.le_of_ble_eq_true rfl⟩) ⟨x_blind, va_recv hK hP rfl h5, x_pre hE hA hS hP hD⟩ rfl rfl hl.1 rfl (lv_room (Nat.le_of_ble_eq_true rfl)) d_M_claim_28 ⟨Nat.le_of_ble_eq_true rfl, Nat.le_of_ble_eq_true rfl⟩) hS (fun r22 w21 H locs q20 hP hD hS => ?_)
        obtain ⟨rfl, ⟨rfl, m23⟩ | ⟨rfl, m23⟩⟩ := q20
        · have m23 : md E.length x2 := by rw [← hex]; exact m23
          refine x_if_ne hx hb 1 rfl (by decide) (tgt := 40) d_M_claim_31 (by decide) (fun c24 => ?_) (fun c24 => ?_)
          rotate_left
          · exact False.elim (by omega)
          obtain ⟨jb, gb, rfl⟩ := id m23
          refine lv_aload_n hx hb d_M_claim_40 rfl (lv_at hl 0 rfl) ?_
          refine va_get (D := xD G) (ci := 5) (C := R_M) (T := F_M) (N := 19) hx hb ht in_M hown hK hP 0 h5 rfl 10 (by decide) (ht _ k_fl_M_72) (fun _ h9 => h9) rfl d_M_claim_41 ?_
          refine lv_bipush (v := (nI 80)) hx hb d_M_claim_44 (by decide) ?_
          refine x_ne hx hb st.co 80 rfl rfl (by omega) (by omega) (tgt := 55) d_M_claim_46 (by decide) (fun c25 => ?_) (fun c25 => ?_)
          · refine lv_aload_n hx hb d_M_claim_55 rfl (lv_at hl 0 rfl) ?_
            refine lv_aload_n hx hb d_M_claim_56 rfl (lv_at hl 0 rfl) ?_
            refine va_get (D := xD G) (ci := 5) (C := R_M) (T := F_M) (N := 19) hx hb ht in_M hown hK hP 0 h5 rfl 11 (by decide) (ht _ k_fl_M_35) (fun _ h9 => h9) rfl d_M_claim_57 ?_
            refine lv_iload_n hx hb d_M_claim_60 rfl (lv_at hl 2 rfl) ?_
            refine x_callv (va_runV (As := [.ref a.aL, .int (nI ja)]) (rest := []) ⟨hx, hb, hml, hown, ht⟩ (c_M_fetch l G A w2 a (⟨0, st.ex, st.va, st.co, st.sv, st.kn, st.kc, st.S, st.Kd, st.In, st.Hw, st.Fr, st.Gn, st.R, st.L, st.T, st.O, st.B, st.W⟩ : MS) E4 8 a.aL st.L h6 (by decide) ja (by omega)) (cwV 2 ht (TW_V k_ml_M_100 k_im_M_fetch k_se_M_fetch k_in_M k_code_M_fetch) rfl rfl rfl hv_M_fetch ⟨Nat.le_of_ble_eq_true rfl, Nat.le_of_ble_eq_true rfl⟩) ⟨x_blind, va_recv hK hP rfl h5, x_pre hE hA hS hP hD⟩ rfl rfl hl.1 rfl (lv_room (Nat.le_of_ble_eq_true rfl)) d_M_claim_61 ⟨Nat.le_of_ble_eq_true rfl, Nat.le_of_ble_eq_true rfl⟩) hS (fun w27 H locs q26 hP hD hS => ?_)
            have q26 : w27 = w2.set 8 (a.aL, aI G 60 (rI (ovb 60 0 st.L (fun j => st.S (60 * ja + j))))) := q26
            obtain ⟨u28, e_u28⟩ : ∃ zz : Nat → Nat, zz = ovb 60 0 st.L (fun j => st.S (60 * ja + j)) := ⟨_, rfl⟩
            rw [← e_u28] at q26
            have h_u28 : ∀ j, j < 60 → u28 j = sE E ja j := fun j hj => by rw [e_u28, ovb_at hj]; exact hS9 ja j ga hj
            have E29 : w27 = mW G a (⟨0, st.ex, st.va, st.co, st.sv, st.kn, st.kc, st.S, st.Kd, st.In, st.Hw, st.Fr, st.Gn, st.R, u28, st.T, st.O, st.B, st.W⟩ : MS) := by rw [q26, E4]; rfl
            have h30 : w27[0]? = some (a.m, .inr (5, [.int (nI 0), .ref a.aS, .ref a.aK, .ref a.aI, .int (nI st.ex), .ref a.aH, .ref a.aF, .ref a.aG, .int (nI st.va), .ref a.aR, .int (nI st.co), .ref a.aL, .ref a.aT, .ref a.aO, .ref a.aB, .ref a.aW, .int (nI st.sv), .int (nI st.kn), .int (nI st.kc)])) := by rw [E29]; rfl
            have h31 : w27[8]? = some (a.aL, aI G 60 (rI u28)) := by rw [E29]; rfl
            have h32 : w27[9]? = some (a.aT, aI G 60 (rI st.T)) := by rw [E29]; rfl
            have h33 : w27[10]? = some (a.aO, aI G 60 (rI st.O)) := by rw [E29]; rfl
            refine lv_iload_n hx hb d_M_claim_64 rfl (lv_at hl 1 rfl) ?_
            refine x_if_ne hx hb 0 rfl (by decide) (tgt := 79) d_M_claim_65 (by decide) (fun c34 => ?_) (fun c34 => ?_)
            · exact False.elim (by omega)
            refine lv_aload_n hx hb d_M_claim_68 rfl (lv_at hl 0 rfl) ?_
            refine lv_aload_n hx hb d_M_claim_69 rfl (lv_at hl 0 rfl) ?_
            refine va_get (D := xD G) (ci := 5) (C := R_M) (T := F_M) (N := 19) hx hb ht in_M hown hK hP 0 h30 rfl 11 (by decide) (ht _ k_fl_M_35) (fun _ h9 => h9) rfl d_M_claim_70 ?_
            refine lv_iload_n hx hb d_M_claim_73 rfl (lv_at hl 3 rfl) ?_
            refine lv_bipush (v := (nI 96)) hx hb d_M_claim_74 (by decide) ?_
            refine x_callv (va_runV (As := [.ref a.aL, .int (nI jb), .int (nI 96)]) (rest := []) ⟨hx, hb, hml, hown, ht⟩ (c_M_add l G A w27 a (⟨0, st.ex, st.va, st.co, st.sv, st.kn, st.kc, st.S, st.Kd, st.In, st.Hw, st.Fr, st.Gn, st.R, u28, st.T, st.O, st.B, st.W⟩ : MS) E29 8 a.aL u28 h31 (by decide) jb 96 (by omega) (by decide) (fun j hj => by rw [h_u28 j hj]; exact hS8 ja j ga hj) (hS6 jb gb)) (cwV 3 ht (TW_V k_ml_M_90 k_im_M_add k_se_M_add k_in_M k_code_M_add) rfl rfl rfl hv_M_add ⟨Nat.le_of_ble_eq_true rfl, Nat.le_of_ble_eq_true rfl⟩) ⟨x_blind, va_recv hK hP rfl h30, x_pre hE hA hS hP hD⟩ rfl rfl hl.1 rfl (lv_room (Nat.le_of_ble_eq_true rfl)) d_M_claim_76 ⟨Nat.le_of_ble_eq_true rfl, Nat.le_of_ble_eq_true rfl⟩) hS (fun w36 H locs q35 hP hD hS => ?_)
            have q35 : w36 = w27.set 8 (a.aL, aI G 60 (rI (ovb 60 0 u28 (fun j => (u28 j + 96 * st.S (60 * jb + j)) % 97)))) := q35
            obtain ⟨u37, e_u37⟩ : ∃ zz : Nat → Nat, zz = ovb 60 0 u28 (fun j => (u28 j + 96 * st.S (60 * jb + j)) % 97) := ⟨_, rfl⟩
            rw [← e_u37] at q35
            have h_u37 : ∀ j, j < 60 → u37 j = cmb 1 (sE E ja) 96 (sE E jb) j := fun j hj => by rw [e_u37, ovb_at hj]; show (u28 j + 96 * st.S (60 * jb + j)) % 97 = (1 * sE E ja j + 96 * sE E jb j) % 97; rw [h_u28 j hj, hS9 jb j gb hj, Nat.one_mul]
            have E38 : w36 = mW G a (⟨0, st.ex, st.va, st.co, st.sv, st.kn, st.kc, st.S, st.Kd, st.In, st.Hw, st.Fr, st.Gn, st.R, u37, st.T, st.O, st.B, st.W⟩ : MS) := by rw [q35, E29]; rfl
            have h39 : w36[0]? = some (a.m, .inr (5, [.int (nI 0), .ref a.aS, .ref a.aK, .ref a.aI, .int (nI st.ex), .ref a.aH, .ref a.aF, .ref a.aG, .int (nI st.va), .ref a.aR, .int (nI st.co), .ref a.aL, .ref a.aT, .ref a.aO, .ref a.aB, .ref a.aW, .int (nI st.sv), .int (nI st.kn), .int (nI st.kc)])) := by rw [E38]; rfl
            have h40 : w36[8]? = some (a.aL, aI G 60 (rI u37)) := by rw [E38]; rfl
            have h41 : w36[9]? = some (a.aT, aI G 60 (rI st.T)) := by rw [E38]; rfl
            have h42 : w36[10]? = some (a.aO, aI G 60 (rI st.O)) := by rw [E38]; rfl
            refine lv_aload_n hx hb d_M_claim_79 rfl (lv_at hl 0 rfl) ?_
            refine va_get (D := xD G) (ci := 5) (C := R_M) (T := F_M) (N := 19) hx hb ht in_M hown hK hP 0 h39 rfl 12 (by decide) (ht _ k_fl_M_38) (fun _ h9 => h9) rfl d_M_claim_80 ?_
            refine lv_iconst (v := (nI 1)) hx hb d_M_claim_83 (by decide) ?_
            refine x_callv (va_runS (As := [.ref a.aT, .int (nI 1)]) (rest := []) ⟨hx, hb, hml, hown, ht⟩ (c_M_number l G A w36 9 a.aT st.T h41 (nI 1)) (va_cwS 2 ht (TW_S k_ml_M_64 k_st_M_number k_in_M k_code_M_number) rfl rfl rfl hv_M_number.2 ⟨Nat.le_of_ble_eq_true rfl, Nat.le_of_ble_eq_true rfl⟩) ⟨x_blind, x_pre hE hA hS hP hD⟩ rfl rfl hl.1 rfl (lv_room (Nat.le_of_ble_eq_true rfl)) d_M_claim_84 ⟨Nat.le_of_ble_eq_true rfl, Nat.le_of_ble_eq_true rfl⟩) hS (fun w44 H locs q43 hP hD hS => ?_)
            have q43 : w44 = w36.set 9 (a.aT, aI G 60 (rI (ovb 60 0 st.T (nmb (rm (nI 1)))))) := q43
            obtain ⟨u45, e_u45⟩ : ∃ zz : Nat → Nat, zz = ovb 60 0 st.T (nmb (rm (nI 1))) := ⟨_, rfl⟩
            rw [← e_u45] at q43
            have h_u45 : ∀ j, j < 60 → u45 j = unit 0 j := fun j hj => by rw [e_u45, ovb_at hj]; exact nmb1 j
            have E46 : w44 = mW G a (⟨0, st.ex, st.va, st.co, st.sv, st.kn, st.kc, st.S, st.Kd, st.In, st.Hw, st.Fr, st.Gn, st.R, u37, u45, st.O, st.B, st.W⟩ : MS) := by rw [q43, E38]; rfl
            have h47 : w44[0]? = some (a.m, .inr (5, [.int (nI 0), .ref a.aS, .ref a.aK, .ref a.aI, .int (nI st.ex), .ref a.aH, .ref a.aF, .ref a.aG, .int (nI st.va), .ref a.aR, .int (nI st.co), .ref a.aL, .ref a.aT, .ref a.aO, .ref a.aB, .ref a.aW, .int (nI st.sv), .int (nI st.kn), .int (nI st.kc)])) := by rw [E46]; rfl
            have h48 : w44[8]? = some (a.aL, aI G 60 (rI u37)) := by rw [E46]; rfl
            have h49 : w44[9]? = some (a.aT, aI G 60 (rI u45)) := by rw [E46]; rfl
            have h50 : w44[10]? = some (a.aO, aI G 60 (rI st.O)) := by rw [E46]; rfl
            refine lv_iload_n hx hb d_M_claim_87 rfl (lv_at hl 1 rfl) ?_
            refine lv_iconst (v := (nI 1)) hx hb d_M_claim_88 (by decide) ?_
            refine x_ne hx hb 0 1 rfl rfl (by decide) (by decide) (tgt := 103) d_M_claim_89 (by decide) (fun c51 => ?_) (fun c51 => ?_)
            rotate_left
            · exact False.elim (by omega)
            refine lv_aload_n hx hb d_M_claim_103 rfl (lv_at hl 0 rfl) ?_
            refine va_get (D := xD G) (ci := 5) (C := R_M) (T := F_M) (N := 19) hx hb ht in_M hown hK hP 0 h47 rfl 13 (by decide) (ht _ k_fl_M_41) (fun _ h9 => h9) rfl d_M_claim_104 ?_
            refine lv_iconst (v := (nI 0)) hx hb d_M_claim_107 (by decide) ?_
            refine x_callv (va_runS (As := [.ref a.aO, .int (nI 0)]) (rest := []) ⟨hx, hb, hml, hown, ht⟩ (c_M_number l G A w44 10 a.aO st.O h50 (nI 0)) (va_cwS 2 ht (TW_S k_ml_M_64 k_st_M_number k_in_M k_code_M_number) rfl rfl rfl hv_M_number.2 ⟨Nat.le_of_ble_eq_true rfl, Nat.le_of_ble_eq_true rfl⟩) ⟨x_blind, x_pre hE hA hS hP hD⟩ rfl rfl hl.1 rfl (lv_room (Nat.le_of_ble_eq_true rfl)) d_M_claim_108 ⟨Nat.le_of_ble_eq_true rfl, Nat.le_of_ble_eq_true rfl⟩) hS (fun w53 H locs q52 hP hD hS => ?_)
            have q52 : w53 = w44.set 10 (a.aO, aI G 60 (rI (ovb 60 0 st.O (nmb (rm (nI 0)))))) := q52
            obtain ⟨u54, e_u54⟩ : ∃ zz : Nat → Nat, zz = ovb 60 0 st.O (nmb (rm (nI 0))) := ⟨_, rfl⟩
            rw [← e_u54] at q52
            have h_u54 : ∀ j, j < 60 → u54 j = zr j := fun j hj => by rw [e_u54, ovb_at hj]; exact nmb0 j
            have E55 : w53 = mW G a (⟨0, st.ex, st.va, st.co, st.sv, st.kn, st.kc, st.S, st.Kd, st.In, st.Hw, st.Fr, st.Gn, st.R, u37, u45, u54, st.B, st.W⟩ : MS) := by rw [q52, E46]; rfl
            have h56 : w53[0]? = some (a.m, .inr (5, [.int (nI 0), .ref a.aS, .ref a.aK, .ref a.aI, .int (nI st.ex), .ref a.aH, .ref a.aF, .ref a.aG, .int (nI st.va), .ref a.aR, .int (nI st.co), .ref a.aL, .ref a.aT, .ref a.aO, .ref a.aB, .ref a.aW, .int (nI st.sv), .int (nI st.kn), .int (nI st.kc)])) := by rw [E55]; rfl
            have h57 : w53[8]? = some (a.aL, aI G 60 (rI u37)) := by rw [E55]; rfl
            have h58 : w53[9]? = some (a.aT, aI G 60 (rI u45)) := by rw [E55]; rfl
            have h59 : w53[10]? = some (a.aO, aI G 60 (rI u54)) := by rw [E55]; rfl
            refine lv_aload_n hx hb d_M_claim_111 rfl (lv_at hl 0 rfl) ?_
            refine lv_aload_n hx hb d_M_claim_112 rfl (lv_at hl 0 rfl) ?_
            refine va_get (D := xD G) (ci := 5) (C := R_M) (T := F_M) (N := 19) hx hb ht in_M hown hK hP 0 h56 rfl 10 (by decide) (ht _ k_fl_M_72) (fun _ h9 => h9) rfl d_M_claim_113 ?_
            refine lv_iconst (v := (nI 0)) hx hb d_M_claim_116 (by decide) ?_
            refine lv_aload_n hx hb d_M_claim_117 rfl (lv_at hl 0 rfl) ?_
            refine va_get (D := xD G) (ci := 5) (C := R_M) (T := F_M) (N := 19) hx hb ht in_M hown hK hP 0 h56 rfl 11 (by decide) (ht _ k_fl_M_35) (fun _ h9 => h9) rfl d_M_claim_118 ?_
            refine x_callv (va_runV (As := [.int (nI st.co), .int (nI 0), .ref a.aL]) (rest := []) ⟨hx, hb, hml, hown, ht⟩ (c_M_keep l G A w53 a (⟨0, st.ex, st.va, st.co, st.sv, st.kn, st.kc, st.S, st.Kd, st.In, st.Hw, st.Fr, st.Gn, st.R, u37, u45, u54, st.B, st.W⟩ : MS) E55 8 a.aL u37 h57 (by decide) st.co 0 (by omega) (by decide)) (cwV 3 ht (TW_V k_ml_M_79 k_im_M_keep k_se_M_keep k_in_M k_code_M_keep) rfl rfl rfl hv_M_keep ⟨Nat.le_of_ble_eq_true rfl, Nat.le_of_ble_eq_true rfl⟩) ⟨x_blind, va_recv hK hP rfl h56, x_pre hE hA hS hP hD⟩ rfl rfl hl.1 rfl (lv_room (Nat.le_of_ble_eq_true rfl)) d_M_claim_121 ⟨Nat.le_of_ble_eq_true rfl, Nat.le_of_ble_eq_true rfl⟩) hS (fun w61 H locs q60 hP hD hS => ?_)
            have E62 : w61 = mW G a (⟨0, st.ex, st.va, st.co, st.sv, st.kn, st.kc, st.S, st.Kd, st.In, st.Hw, st.Fr, st.Gn, (ovb 60 (180 * st.co + 60 * 0) st.R u37), u37, u45, u54, st.B, st.W⟩ : MS) := by rw [q60, E55]; rfl
            have h63 : w61[0]? = some (a.m, .inr (5, [.int (nI 0), .ref a.aS, .ref a.aK, .ref a.aI, .int (nI st.ex), .ref a.aH, .ref a.aF, .ref a.aG, .int (nI st.va), .ref a.aR, .int (nI st.co), .ref a.aL, .ref a.aT, .ref a.aO, .ref a.aB, .ref a.aW, .int (nI st.sv), .int (nI st.kn), .int (nI st.kc)])) := by rw [E62]; rfl
            have h64 : w61[8]? = some (a.aL, aI G 60 (rI u37)) := by rw [E62]; rfl
            have h65 : w61[9]? = some (a.aT, aI G 60 (rI u45)) := by rw [E62]; rfl
            have h66 : w61[10]? = some (a.aO, aI G 60 (rI u54)) := by rw [E62]; rfl
            refine lv_aload_n hx hb d_M_claim_124 rfl (lv_at hl 0 rfl) ?_
            refine lv_aload_n hx hb d_M_claim_125 rfl (lv_at hl 0 rfl) ?_
            refine va_get (D := xD G) (ci := 5) (C := R_M) (T := F_M) (N := 19) hx hb ht in_M hown hK hP 0 h63 rfl 10 (by decide) (ht _ k_fl_M_72) (fun _ h9 => h9) rfl d_M_claim_126 ?_
            refine lv_iconst (v := (nI 1)) hx hb d_M_claim_129 (by decide) ?_
            refine lv_aload_n hx hb d_M_claim_130 rfl (lv_at hl 0 rfl) ?_
            refine va_get (D := xD G) (ci := 5) (C := R_M) (T := F_M) (N := 19) hx hb ht in_M hown hK hP 0 h63 rfl 12 (by decide) (ht _ k_fl_M_38) (fun _ h9 => h9) rfl d_M_claim_131 ?_
            refine x_callv (va_runV (As := [.int (nI st.co), .int (nI 1), .ref a.aT]) (rest := []) ⟨hx, hb, hml, hown, ht⟩ (c_M_keep l G A w61 a (⟨0, st.ex, st.va, st.co, st.sv, st.kn, st.kc, st.S, st.Kd, st.In, st.Hw, st.Fr, st.Gn, (ovb 60 (180 * st.co + 60 * 0) st.R u37), u37, u45, u54, st.B, st.W⟩ : MS) E62 9 a.aT u45 h65 (by decide) st.co 1 (by omega) (by decide)) (cwV 3 ht (TW_V k_ml_M_79 k_im_M_keep k_se_M_keep k_in_M k_code_M_keep) rfl rfl rfl hv_M_keep ⟨Nat.le_of_ble_eq_true rfl, Nat.le_of_ble_eq_true rfl⟩) ⟨x_blind, va_recv hK hP rfl h63, x_pre hE hA hS hP hD⟩ rfl rfl hl.1 rfl (lv_room (Nat.le_of_ble_eq_true rfl)) d_M_claim_134 ⟨Nat.le_of_ble_eq_true rfl, Nat.le_of_ble_eq_true rfl⟩) hS (fun w68 H locs q67 hP hD hS => ?_)
            have E69 : w68 = mW G a (⟨0, st.ex, st.va, st.co, st.sv, st.kn, st.kc, st.S, st.Kd, st.In, st.Hw, st.Fr, st.Gn, (ovb 60 (180 * st.co + 60 * 1) (ovb 60 (180 * st.co + 60 * 0) st.R u37) u45), u37, u45, u54, st.B, st.W⟩ : MS) := by rw [q67, E62]; rfl
            have h70 : w68[0]? = some (a.m, .inr (5, [.int (nI 0), .ref a.aS, .ref a.aK, .ref a.aI, .int (nI st.ex), .ref a.aH, .ref a.aF, .ref a.aG, .int (nI st.va), .ref a.aR, .int (nI st.co), .ref a.aL, .ref a.aT, .ref a.aO, .ref a.aB, .ref a.aW, .int (nI st.sv), .int (nI st.kn), .int (nI st.kc)])) := by rw [E69]; rfl
            have h71 : w68[8]? = some (a.aL, aI G 60 (rI u37)) := by rw [E69]; rfl
            have h72 : w68[9]? = some (a.aT, aI G 60 (rI u45)) := by rw [E69]; rfl
            have h73 : w68[10]? = some (a.aO, aI G 60 (rI u54)) := by rw [E69]; rfl
            refine lv_aload_n hx hb d_M_claim_137 rfl (lv_at hl 0 rfl) ?_
            refine lv_aload_n hx hb d_M_claim_138 rfl (lv_at hl 0 rfl) ?_
            refine va_get (D := xD G) (ci := 5) (C := R_M) (T := F_M) (N := 19) hx hb ht in_M hown hK hP 0 h70 rfl 10 (by decide) (ht _ k_fl_M_72) (fun _ h9 => h9) rfl d_M_claim_139 ?_
            refine lv_iconst (v := (nI 2)) hx hb d_M_claim_142 (by decide) ?_
            refine lv_aload_n hx hb d_M_claim_143 rfl (lv_at hl 0 rfl) ?_
            refine va_get (D := xD G) (ci := 5) (C := R_M) (T := F_M) (N := 19) hx hb ht in_M hown hK hP 0 h70 rfl 13 (by decide) (ht _ k_fl_M_41) (fun _ h9 => h9) rfl d_M_claim_144 ?_
            refine x_callv (va_runV (As := [.int (nI st.co), .int (nI 2), .ref a.aO]) (rest := []) ⟨hx, hb, hml, hown, ht⟩ (c_M_keep l G A w68 a (⟨0, st.ex, st.va, st.co, st.sv, st.kn, st.kc, st.S, st.Kd, st.In, st.Hw, st.Fr, st.Gn, (ovb 60 (180 * st.co + 60 * 1) (ovb 60 (180 * st.co + 60 * 0) st.R u37) u45), u37, u45, u54, st.B, st.W⟩ : MS) E69 10 a.aO u54 h73 (by decide) st.co 2 (by omega) (by decide)) (cwV 3 ht (TW_V k_ml_M_79 k_im_M_keep k_se_M_keep k_in_M k_code_M_keep) rfl rfl rfl hv_M_keep ⟨Nat.le_of_ble_eq_true rfl, Nat.le_of_ble_eq_true rfl⟩) ⟨x_blind, va_recv hK hP rfl h70, x_pre hE hA hS hP hD⟩ rfl rfl hl.1 rfl (lv_room (Nat.le_of_ble_eq_true rfl)) d_M_claim_147 ⟨Nat.le_of_ble_eq_true rfl, Nat.le_of_ble_eq_true rfl⟩) hS (fun w75 H locs q74 hP hD hS => ?_)
            have E76 : w75 = mW G a (⟨0, st.ex, st.va, st.co, st.sv, st.kn, st.kc, st.S, st.Kd, st.In, st.Hw, st.Fr, st.Gn, (ovb 60 (180 * st.co + 60 * 2) (ovb 60 (180 * st.co + 60 * 1) (ovb 60 (180 * st.co + 60 * 0) st.R u37) u45) u54), u37, u45, u54, st.B, st.W⟩ : MS) := by rw [q74, E69]; rfl
            have h77 : w75[0]? = some (a.m, .inr (5, [.int (nI 0), .ref a.aS, .ref a.aK, .ref a.aI, .int (nI st.ex), .ref a.aH, .ref a.aF, .ref a.aG, .int (nI st.va), .ref a.aR, .int (nI st.co), .ref a.aL, .ref a.aT, .ref a.aO, .ref a.aB, .ref a.aW, .int (nI st.sv), .int (nI st.kn), .int (nI st.kc)])) := by rw [E76]; rfl
            have h78 : w75[8]? = some (a.aL, aI G 60 (rI u37)) := by rw [E76]; rfl
            have h79 : w75[9]? = some (a.aT, aI G 60 (rI u45)) := by rw [E76]; rfl
            have h80 : w75[10]? = some (a.aO, aI G 60 (rI u54)) := by rw [E76]; rfl
            refine lv_aload_n hx hb d_M_claim_150 rfl (lv_at hl 0 rfl) ?_
            refine lv_dup hx hb d_M_claim_151 rfl ?_
            refine va_get (D := xD G) (ci := 5) (C := R_M) (T := F_M) (N := 19) hx hb ht in_M hown hK hP 0 h77 rfl 10 (by decide) (ht _ k_fl_M_72) (fun _ h9 => h9) rfl d_M_claim_152 ?_
            refine lv_iconst (v := (nI 1)) hx hb d_M_claim_155 (by decide) ?_
            refine lv_iadd hx hb d_M_claim_156 ?_
            refine x_top (nI (st.co + 1)) (nI_add _ _) ?_
            refine va_put (D := xD G) (ci := 5) (v := .int (nI (st.co + 1))) (ty := .int) (C := R_M) (T := F_M) (N := 19) hx hb ht in_M ft_M fo_M nm_M hown hK hP hD hS 0 h77 rfl 10 (by decide) (ht _ k_fl_M_72) (fun _ h9 => h9) rfl (by decide +kernel) rfl rfl (Nat.le_of_ble_eq_true rfl) d_M_claim_157 (fun H locs hP hD hS => ?_)
            have hP : va_P (xD G) CL (w75.set 0 (a.m, .inr (5, [.int (nI 0), .ref a.aS, .ref a.aK, .ref a.aI, .int (nI st.ex), .ref a.aH, .ref a.aF, .ref a.aG, .int (nI st.va), .ref a.aR, .int (nI (st.co + 1)), .ref a.aL, .ref a.aT, .ref a.aO, .ref a.aB, .ref a.aW, .int (nI st.sv), .int (nI st.kn), .int (nI st.kc)]))) H := hP
            have hD : va_D A (w75.set 0 (a.m, .inr (5, [.int (nI 0), .ref a.aS, .ref a.aK, .ref a.aI, .int (nI st.ex), .ref a.aH, .ref a.aF, .ref a.aG, .int (nI st.va), .ref a.aR, .int (nI (st.co + 1)), .ref a.aL, .ref a.aT, .ref a.aO, .ref a.aB, .ref a.aW, .int (nI st.sv), .int (nI st.kn), .int (nI st.kc)]))) := hD
            obtain ⟨w81, e_w81⟩ : ∃ zz : va_W, zz = w75.set 0 (a.m, .inr (5, [.int (nI 0), .ref a.aS, .ref a.aK, .ref a.aI, .int (nI st.ex), .ref a.aH, .ref a.aF, .ref a.aG, .int (nI st.va), .ref a.aR, .int (nI (st.co + 1)), .ref a.aL, .ref a.aT, .ref a.aO, .ref a.aB, .ref a.aW, .int (nI st.sv), .int (nI st.kn), .int (nI st.kc)])) := ⟨_, rfl⟩
            rw [← e_w81] at hP hD
            have h82 : w81[0]? = some (a.m, .inr (5, [.int (nI 0), .ref a.aS, .ref a.aK, .ref a.aI, .int (nI st.ex), .ref a.aH, .ref a.aF, .ref a.aG, .int (nI st.va), .ref a.aR, .int (nI (st.co + 1)), .ref a.aL, .ref a.aT, .ref a.aO, .ref a.aB, .ref a.aW, .int (nI st.sv), .int (nI st.kn), .int (nI st.kc)])) := by rw [e_w81]; exact w_eq h77
            have E83 : w81 = mW G a (⟨0, st.ex, st.va, st.co + 1, st.sv, st.kn, st.kc, st.S, st.Kd, st.In, st.Hw, st.Fr, st.Gn, (ovb 60 (180 * st.co + 60 * 2) (ovb 60 (180 * st.co + 60 * 1) (ovb 60 (180 * st.co + 60 * 0) st.R u37) u45) u54), u37, u45, u54, st.B, st.W⟩ : MS) := by rw [e_w81, E76]; rfl
            have h84 : w81[0]? = some (a.m, .inr (5, [.int (nI 0), .ref a.aS, .ref a.aK, .ref a.aI, .int (nI st.ex), .ref a.aH, .ref a.aF, .ref a.aG, .int (nI st.va), .ref a.aR, .int (nI (st.co + 1)), .ref a.aL, .ref a.aT, .ref a.aO, .ref a.aB, .ref a.aW, .int (nI st.sv), .int (nI st.kn), .int (nI st.kc)])) := by rw [E83]; rfl
            have h85 : w81[8]? = some (a.aL, aI G 60 (rI u37)) := by rw [E83]; rfl
            have h86 : w81[9]? = some (a.aT, aI G 60 (rI u45)) := by rw [E83]; rfl
            have h87 : w81[10]? = some (a.aO, aI G 60 (rI u54)) := by rw [E83]; rfl
            refine lv_aload_n hx hb d_M_claim_160 rfl (lv_at hl 0 rfl) ?_
            refine va_get (D := xD G) (ci := 5) (C := R_M) (T := F_M) (N := 19) hx hb ht in_M hown hK hP 0 h84 rfl 10 (by decide) (ht _ k_fl_M_72) (fun _ h9 => h9) rfl d_M_claim_161 ?_
            refine lv_iconst (v := (nI 1)) hx hb d_M_claim_164 (by decide) ?_
            refine lv_isub hx hb d_M_claim_165 ?_
            refine x_top (nI ((st.co + 1) - 1)) (pk_sub (by omega)) ?_
            have ek : clK E (nI 0) (nI ja) (nI jb) = (cmb 1 (sE E ja) 96 (sE E jb), unit 0, zr) := by simp [clK, ix_nI (show ja < 2 ^ 31 by omega), ix_nI (show jb < 2 ^ 31 by omega)]
            have rel : MRel (⟨0, st.ex, st.va, st.co + 1, st.sv, st.kn, st.kc, st.S, st.Kd, st.In, st.Hw, st.Fr, st.Gn, (ovb 60 (180 * st.co + 60 * 2) (ovb 60 (180 * st.co + 60 * 1) (ovb 60 (180 * st.co + 60 * 0) st.R u37) u45) u54), u37, u45, u54, st.B, st.W⟩ : MS) V E (K ++ [clK E (nI 0) (nI ja) (nI jb)]) inp w wV wC := by
              rw [ek]
              refine ⟨hM.1.add (Nat.le_refl _) (fun c t j hc ht9 hj => ?_) (fun t j ht9 hj => ?_), hM.2.1.mono, hM.2.2.1, hM.2.2.2.mono⟩
              · show (ovb 60 (180 * st.co + 60 * 2) (ovb 60 (180 * st.co + 60 * 1) (ovb 60 (180 * st.co + 60 * 0) st.R u37) u45) u54) (180 * c + 60 * t + j) = _
                rw [ovb_out (by omega), ovb_out (by omega), ovb_out (by omega)]
              · show (ovb 60 (180 * st.co + 60 * 2) (ovb 60 (180 * st.co + 60 * 1) (ovb 60 (180 * st.co + 60 * 0) st.R u37) u45) u54) (180 * K.length + 60 * t + j) = _ ∧ _
                have t9 : t = 0 ∨ t = 1 ∨ t = 2 := by omega
                rcases t9 with rfl | rfl | rfl
                · exact ⟨by rw [ovb_out (by omega), ovb_out (by omega), ovb_hit (j := j) (by omega) hj]; exact h_u37 j hj, cmb_lt j, fun q => (show cmb 1 (sE E ja) 96 (sE E jb) j = 0 by simp [cmb, hS7 ja j ga q hj, hS7 jb j gb q hj])⟩
                · exact ⟨by rw [ovb_out (by omega), ovb_hit (j := j) (by omega) hj]; exact h_u45 j hj, unit_lt _ _, fun q => unit_0 (by omega)⟩
                · exact ⟨by rw [ovb_hit (j := j) (by omega) hj]; exact h_u54 j hj, (by decide : 0 < 97), fun q => rfl⟩
            exact x_iret hx hb hr hlocks hS hP hD (Nat.le_of_ble_eq_true rfl) (Nat.le_of_ble_eq_true rfl) d_M_claim_166 (⟨_, E83, Or.inl ⟨rfl, by rw [Nat.add_sub_cancel, hco], Or.inl ⟨rfl, m17, m23⟩, by omega, rel⟩⟩)
          · refine lv_aload_n hx hb d_M_claim_49 rfl (lv_at hl 0 rfl) ?_
            refine lv_iconst (v := (nI 2)) hx hb d_M_claim_50 (by decide) ?_
            refine x_calli (va_runV (As := [.int (nI 2)]) (rest := []) ⟨hx, hb, hml, hown, ht⟩ (c_M_raise l G A w2 a (⟨0, st.ex, st.va, st.co, st.sv, st.kn, st.kc, st.S, st.Kd, st.In, st.Hw, st.Fr, st.Gn, st.R, st.L, st.T, st.O, st.B, st.W⟩ : MS) E4 2) (cwV 1 ht (TW_V k_ml_M_117 k_im_M_raise k_se_M_raise k_in_M k_code_M_raise) rfl rfl rfl hv_M_raise ⟨Nat.le_of_ble_eq_true rfl, Nat.le_of_ble_eq_true rfl⟩) ⟨x_blind, va_recv hK hP rfl h5, x_pre hE hA hS hP hD⟩ rfl rfl hl.1 rfl (lv_room (Nat.le_of_ble_eq_true rfl)) d_M_claim_51 ⟨Nat.le_of_ble_eq_true rfl, Nat.le_of_ble_eq_true rfl⟩) hS (fun r90 w89 H locs q88 hP hD hS => ?_)
            obtain ⟨rfl, q88⟩ := q88
            have E91 : w89 = mW G a (⟨2, st.ex, st.va, st.co, st.sv, st.kn, st.kc, st.S, st.Kd, st.In, st.Hw, st.Fr, st.Gn, st.R, st.L, st.T, st.O, st.B, st.W⟩ : MS) := q88
            have h92 : w89[0]? = some (a.m, .inr (5, [.int (nI 2), .ref a.aS, .ref a.aK, .ref a.aI, .int (nI st.ex), .ref a.aH, .ref a.aF, .ref a.aG, .int (nI st.va), .ref a.aR, .int (nI st.co), .ref a.aL, .ref a.aT, .ref a.aO, .ref a.aB, .ref a.aW, .int (nI st.sv), .int (nI st.kn), .int (nI st.kc)])) := by rw [E91]; rfl
            exact x_iret hx hb hr hlocks hS hP hD (Nat.le_of_ble_eq_true rfl) (Nat.le_of_ble_eq_true rfl) d_M_claim_54 (⟨_, E91, Or.inr (Or.inr (⟨rfl, ⟨Or.inl ⟨rfl, m17, m23⟩, by omega⟩, hM⟩))⟩)
        · have m23 : ¬ md E.length x2 := by rw [← hex]; exact m23
          refine x_if_ne hx hb 0 rfl (by decide) (tgt := 40) d_M_claim_31 (by decide) (fun c93 => ?_) (fun c93 => ?_)
          · exact False.elim (by omega)
          refine lv_aload_n hx hb d_M_claim_34 rfl (lv_at hl 0 rfl) ?_
          refine lv_iconst (v := (nI 1)) hx hb d_M_claim_35 (by decide) ?_
          refine x_calli (va_runV (As := [.int (nI 1)]) (rest := []) ⟨hx, hb, hml, hown, ht⟩ (c_M_raise l G A w2 a (⟨0, st.ex, st.va, st.co, st.sv, st.kn, st.kc, st.S, st.Kd, st.In, st.Hw, st.Fr, st.Gn, st.R, st.L, st.T, st.O, st.B, st.W⟩ : MS) E4 1) (cwV 1 ht (TW_V k_ml_M_117 k_im_M_raise k_se_M_raise k_in_M k_code_M_raise) rfl rfl rfl hv_M_raise ⟨Nat.le_of_ble_eq_true rfl, Nat.le_of_ble_eq_true rfl⟩) ⟨x_blind, va_recv hK hP rfl h5, x_pre hE hA hS hP hD⟩ rfl rfl hl.1 rfl (lv_room (Nat.le_of_ble_eq_true rfl)) d_M_claim_36 ⟨Nat.le_of_ble_eq_true rfl, Nat.le_of_ble_eq_true rfl⟩) hS (fun r96 w95 H locs q94 hP hD hS => ?_)
          obtain ⟨rfl, q94⟩ := q94
          have E97 : w95 = mW G a (⟨1, st.ex, st.va, st.co, st.sv, st.kn, st.kc, st.S, st.Kd, st.In, st.Hw, st.Fr, st.Gn, st.R, st.L, st.T, st.O, st.B, st.W⟩ : MS) := q94
          have h98 : w95[0]? = some (a.m, .inr (5, [.int (nI 1), .ref a.aS, .ref a.aK, .ref a.aI, .int (nI st.ex), .ref a.aH, .ref a.aF, .ref a.aG, .int (nI st.va), .ref a.aR, .int (nI st.co), .ref a.aL, .ref a.aT, .ref a.aO, .ref a.aB, .ref a.aW, .int (nI st.sv), .int (nI st.kn), .int (nI st.kc)])) := by rw [E97]; rfl
          exact x_iret hx hb hr hlocks hS hP hD (Nat.le_of_ble_eq_true rfl) (Nat.le_of_ble_eq_true rfl) d_M_claim_39 (⟨_, E97, Or.inr (Or.inl ⟨rfl, fun q => by rcases q with q | q; exact m23 q.2.2; exact absurd q.1 (by decide), hM⟩)⟩)
      · have m17 : ¬ md E.length x1 := by rw [← hex]; exact m17
        refine x_if_eq hx hb 0 rfl (by decide) (tgt := 34) d_M_claim_19 (by decide) (fun c99 => ?_) (fun c99 => ?_)
        rotate_left
        · exact False.elim (by omega)
        refine lv_aload_n hx hb d_M_claim_34 rfl (lv_at hl 0 rfl) ?_
        refine lv_iconst (v := (nI 1)) hx hb d_M_claim_35 (by decide) ?_
        refine x_calli (va_runV (As := [.int (nI 1)]) (rest := []) ⟨hx, hb, hml, hown, ht⟩ (c_M_raise l G A w2 a (⟨0, st.ex, st.va, st.co, st.sv, st.kn, st.kc, st.S, st.Kd, st.In, st.Hw, st.Fr, st.Gn, st.R, st.L, st.T, st.O, st.B, st.W⟩ : MS) E4 1) (cwV 1 ht (TW_V k_ml_M_117 k_im_M_raise k_se_M_raise k_in_M k_code_M_raise) rfl rfl rfl hv_M_raise ⟨Nat.le_of_ble_eq_true rfl, Nat.le_of_ble_eq_true rfl⟩) ⟨x_blind, va_recv hK hP rfl h5, x_pre hE hA hS hP hD⟩ rfl rfl hl.1 rfl (lv_room (Nat.le_of_ble_eq_true rfl)) d_M_claim_36 ⟨Nat.le_of_ble_eq_true rfl, Nat.le_of_ble_eq_true rfl⟩) hS (fun r102 w101 H locs q100 hP hD hS => ?_)
        obtain ⟨rfl, q100⟩ := q100
        have E103 : w101 = mW G a (⟨1, st.ex, st.va, st.co, st.sv, st.kn, st.kc, st.S, st.Kd, st.In, st.Hw, st.Fr, st.Gn, st.R, st.L, st.T, st.O, st.B, st.W⟩ : MS) := q100
        have h104 : w101[0]? = some (a.m, .inr (5, [.int (nI 1), .ref a.aS, .ref a.aK, .ref a.aI, .int (nI st.ex), .ref a.aH, .ref a.aF, .ref a.aG, .int (nI st.va), .ref a.aR, .int (nI st.co), .ref a.aL, .ref a.aT, .ref a.aO, .ref a.aB, .ref a.aW, .int (nI st.sv), .int (nI st.kn), .int (nI st.kc)])) := by rw [E103]; rfl
        exact x_iret hx hb hr hlocks hS hP hD (Nat.le_of_ble_eq_true rfl) (Nat.le_of_ble_eq_true rfl) d_M_claim_39 (⟨_, E103, Or.inr (Or.inl ⟨rfl, fun q => by rcases q with q | q; exact m17 q.2.1; exact m17 q.2, hM⟩)⟩)
    · refine lv_aload_n hx hb d_M_claim_14 rfl (lv_at hl 0 rfl) ?_
      refine lv_iload_n hx hb d_M_claim_15 rfl (lv_at hl 2 rfl) ?_
      refine x_calli (va_runV (As := [.int x1]) (rest := []) ⟨hx, hb, hml, hown, ht⟩ (c_M_made l G A w2 a (⟨0, st.ex, st.va, st.co, st.sv, st.kn, st.kc, st.S, st.Kd, st.In, st.Hw, st.Fr, st.Gn, st.R, st.L, st.T, st.O, st.B, st.W⟩ : MS) E4 (show st.ex ≤ 60 by omega) x1) (cwV 1 ht (TW_V k_ml_M_86 k_im_M_made k_se_M_made k_in_M k_code_M_made) rfl rfl rfl hv_M_made ⟨Nat.le_of_ble_eq_true rfl, Nat.le_of_ble_eq_true rfl⟩) ⟨x_blind, va_recv hK hP rfl h5, x_pre hE hA hS hP hD⟩ rfl rfl hl.1 rfl (lv_room (Nat.le_of_ble_eq_true rfl)) d_M_claim_16 ⟨Nat.le_of_ble_eq_true rfl, Nat.le_of_ble_eq_true rfl⟩) hS (fun r107 w106 H locs q105 hP hD hS => ?_)
      obtain ⟨rfl, ⟨rfl, m108⟩ | ⟨rfl, m108⟩⟩ := q105
      · have m108 : md E.length x1 := by rw [← hex]; exact m108
        refine x_if_eq hx hb 1 rfl (by decide) (tgt := 34) d_M_claim_19 (by decide) (fun c109 => ?_) (fun c109 => ?_)
        · exact False.elim (by omega)
        obtain ⟨ja, ga, rfl⟩ := id m108
        refine lv_iload_n hx hb d_M_claim_22 rfl (lv_at hl 1 rfl) ?_
        refine x_if_ne hx hb 1 rfl (by decide) (tgt := 40) d_M_claim_23 (by decide) (fun c110 => ?_) (fun c110 => ?_)
        rotate_left
        · exact False.elim (by omega)
        refine lv_aload_n hx hb d_M_claim_40 rfl (lv_at hl 0 rfl) ?_
        refine va_get (D := xD G) (ci := 5) (C := R_M) (T := F_M) (N := 19) hx hb ht in_M hown hK hP 0 h5 rfl 10 (by decide) (ht _ k_fl_M_72) (fun _ h9 => h9) rfl d_M_claim_41 ?_
        refine lv_bipush (v := (nI 80)) hx hb d_M_claim_44 (by decide) ?_
        refine x_ne hx hb st.co 80 rfl rfl (by omega) (by omega) (tgt := 55) d_M_claim_46 (by decide) (fun c111 => ?_) (fun c111 => ?_)
        · refine lv_aload_n hx hb d_M_claim_55 rfl (lv_at hl 0 rfl) ?_
          refine lv_aload_n hx hb d_M_claim_56 rfl (lv_at hl 0 rfl) ?_
          refine va_get (D := xD G) (ci := 5) (C := R_M) (T := F_M) (N := 19) hx hb ht in_M hown hK hP 0 h5 rfl 11 (by decide) (ht _ k_fl_M_35) (fun _ h9 => h9) rfl d_M_claim_57 ?_
          refine lv_iload_n hx hb d_M_claim_60 rfl (lv_at hl 2 rfl) ?_
          refine x_callv (va_runV (As := [.ref a.aL, .int (nI ja)]) (rest := []) ⟨hx, hb, hml, hown, ht⟩ (c_M_fetch l G A w2 a (⟨0, st.ex, st.va, st.co, st.sv, st.kn, st.kc, st.S, st.Kd, st.In, st.Hw, st.Fr, st.Gn, st.R, st.L, st.T, st.O, st.B, st.W⟩ : MS) E4 8 a.aL st.L h6 (by decide) ja (by omega)) (cwV 2 ht (TW_V k_ml_M_100 k_im_M_fetch k_se_M_fetch k_in_M k_code_M_fetch) rfl rfl rfl hv_M_fetch ⟨Nat.le_of_ble_eq_true rfl, Nat.le_of_ble_eq_true rfl⟩) ⟨x_blind, va_recv hK hP rfl h5, x_pre hE hA hS hP hD⟩ rfl rfl hl.1 rfl (lv_room (Nat.le_of_ble_eq_true rfl)) d_M_claim_61 ⟨Nat.le_of_ble_eq_true rfl, Nat.le_of_ble_eq_true rfl⟩) hS (fun w113 H locs q112 hP hD hS => ?_)
          have q112 : w113 = w2.set 8 (a.aL, aI G 60 (rI (ovb 60 0 st.L (fun j => st.S (60 * ja + j))))) := q112
          obtain ⟨u114, e_u114⟩ : ∃ zz : Nat → Nat, zz = ovb 60 0 st.L (fun j => st.S (60 * ja + j)) := ⟨_, rfl⟩
          rw [← e_u114] at q112
          have h_u114 : ∀ j, j < 60 → u114 j = sE E ja j := fun j hj => by rw [e_u114, ovb_at hj]; exact hS9 ja j ga hj
          have E115 : w113 = mW G a (⟨0, st.ex, st.va, st.co, st.sv, st.kn, st.kc, st.S, st.Kd, st.In, st.Hw, st.Fr, st.Gn, st.R, u114, st.T, st.O, st.B, st.W⟩ : MS) := by rw [q112, E4]; rfl
          have h116 : w113[0]? = some (a.m, .inr (5, [.int (nI 0), .ref a.aS, .ref a.aK, .ref a.aI, .int (nI st.ex), .ref a.aH, .ref a.aF, .ref a.aG, .int (nI st.va), .ref a.aR, .int (nI st.co), .ref a.aL, .ref a.aT, .ref a.aO, .ref a.aB, .ref a.aW, .int (nI st.sv), .int (nI st.kn), .int (nI st.kc)])) := by rw [E115]; rfl
          have h117 : w113[8]? = some (a.aL, aI G 60 (rI u114)) := by rw [E115]; rfl
          have h118 : w113[9]? = some (a.aT, aI G 60 (rI st.T)) := by rw [E115]; rfl
          have h119 : w113[10]? = some (a.aO, aI G 60 (rI st.O)) := by rw [E115]; rfl
          refine lv_iload_n hx hb d_M_claim_64 rfl (lv_at hl 1 rfl) ?_
          refine x_if_ne hx hb 1 rfl (by decide) (tgt := 79) d_M_claim_65 (by decide) (fun c120 => ?_) (fun c120 => ?_)
          rotate_left
          · exact False.elim (by omega)
          refine lv_aload_n hx hb d_M_claim_79 rfl (lv_at hl 0 rfl) ?_
          refine va_get (D := xD G) (ci := 5) (C := R_M) (T := F_M) (N := 19) hx hb ht in_M hown hK hP 0 h116 rfl 12 (by decide) (ht _ k_fl_M_38) (fun _ h9 => h9) rfl d_M_claim_80 ?_
          refine lv_iconst (v := (nI 1)) hx hb d_M_claim_83 (by decide) ?_
          refine x_callv (va_runS (As := [.ref a.aT, .int (nI 1)]) (rest := []) ⟨hx, hb, hml, hown, ht⟩ (c_M_number l G A w113 9 a.aT st.T h118 (nI 1)) (va_cwS 2 ht (TW_S k_ml_M_64 k_st_M_number k_in_M k_code_M_number) rfl rfl rfl hv_M_number.2 ⟨Nat.le_of_ble_eq_true rfl, Nat.le_of_ble_eq_true rfl⟩) ⟨x_blind, x_pre hE hA hS hP hD⟩ rfl rfl hl.1 rfl (lv_room (Nat.le_of_ble_eq_true rfl)) d_M_claim_84 ⟨Nat.le_of_ble_eq_true rfl, Nat.le_of_ble_eq_true rfl⟩) hS (fun w122 H locs q121 hP hD hS => ?_)
          have q121 : w122 = w113.set 9 (a.aT, aI G 60 (rI (ovb 60 0 st.T (nmb (rm (nI 1)))))) := q121
          obtain ⟨u123, e_u123⟩ : ∃ zz : Nat → Nat, zz = ovb 60 0 st.T (nmb (rm (nI 1))) := ⟨_, rfl⟩
          rw [← e_u123] at q121
          have h_u123 : ∀ j, j < 60 → u123 j = unit 0 j := fun j hj => by rw [e_u123, ovb_at hj]; exact nmb1 j
          have E124 : w122 = mW G a (⟨0, st.ex, st.va, st.co, st.sv, st.kn, st.kc, st.S, st.Kd, st.In, st.Hw, st.Fr, st.Gn, st.R, u114, u123, st.O, st.B, st.W⟩ : MS) := by rw [q121, E115]; rfl
          have h125 : w122[0]? = some (a.m, .inr (5, [.int (nI 0), .ref a.aS, .ref a.aK, .ref a.aI, .int (nI st.ex), .ref a.aH, .ref a.aF, .ref a.aG, .int (nI st.va), .ref a.aR, .int (nI st.co), .ref a.aL, .ref a.aT, .ref a.aO, .ref a.aB, .ref a.aW, .int (nI st.sv), .int (nI st.kn), .int (nI st.kc)])) := by rw [E124]; rfl
          have h126 : w122[8]? = some (a.aL, aI G 60 (rI u114)) := by rw [E124]; rfl
          have h127 : w122[9]? = some (a.aT, aI G 60 (rI u123)) := by rw [E124]; rfl
          have h128 : w122[10]? = some (a.aO, aI G 60 (rI st.O)) := by rw [E124]; rfl
          refine lv_iload_n hx hb d_M_claim_87 rfl (lv_at hl 1 rfl) ?_
          refine lv_iconst (v := (nI 1)) hx hb d_M_claim_88 (by decide) ?_
          refine x_ne hx hb 1 1 rfl rfl (by decide) (by decide) (tgt := 103) d_M_claim_89 (by decide) (fun c129 => ?_) (fun c129 => ?_)
          · exact False.elim (by omega)
          refine lv_aload_n hx hb d_M_claim_92 rfl (lv_at hl 0 rfl) ?_
          refine lv_aload_n hx hb d_M_claim_93 rfl (lv_at hl 0 rfl) ?_
          refine va_get (D := xD G) (ci := 5) (C := R_M) (T := F_M) (N := 19) hx hb ht in_M hown hK hP 0 h125 rfl 12 (by decide) (ht _ k_fl_M_38) (fun _ h9 => h9) rfl d_M_claim_94 ?_
          refine lv_iload_n hx hb d_M_claim_97 rfl (lv_at hl 2 rfl) ?_
          refine lv_bipush (v := (nI 96)) hx hb d_M_claim_98 (by decide) ?_
          refine x_callv (va_runV (As := [.ref a.aT, .int (nI ja), .int (nI 96)]) (rest := []) ⟨hx, hb, hml, hown, ht⟩ (c_M_add l G A w122 a (⟨0, st.ex, st.va, st.co, st.sv, st.kn, st.kc, st.S, st.Kd, st.In, st.Hw, st.Fr, st.Gn, st.R, u114, u123, st.O, st.B, st.W⟩ : MS) E124 9 a.aT u123 h127 (by decide) ja 96 (by omega) (by decide) (fun j hj => by rw [h_u123 j hj]; exact unit_lt _ _) (hS6 ja ga)) (cwV 3 ht (TW_V k_ml_M_90 k_im_M_add k_se_M_add k_in_M k_code_M_add) rfl rfl rfl hv_M_add ⟨Nat.le_of_ble_eq_true rfl, Nat.le_of_ble_eq_true rfl⟩) ⟨x_blind, va_recv hK hP rfl h125, x_pre hE hA hS hP hD⟩ rfl rfl hl.1 rfl (lv_room (Nat.le_of_ble_eq_true rfl)) d_M_claim_100 ⟨Nat.le_of_ble_eq_true rfl, Nat.le_of_ble_eq_true rfl⟩) hS (fun w131 H locs q130 hP hD hS => ?_)
          have q130 : w131 = w122.set 9 (a.aT, aI G 60 (rI (ovb 60 0 u123 (fun j => (u123 j + 96 * st.S (60 * ja + j)) % 97)))) := q130
          obtain ⟨u132, e_u132⟩ : ∃ zz : Nat → Nat, zz = ovb 60 0 u123 (fun j => (u123 j + 96 * st.S (60 * ja + j)) % 97) := ⟨_, rfl⟩
          rw [← e_u132] at q130
          have h_u132 : ∀ j, j < 60 → u132 j = cmb 1 (unit 0) 96 (sE E ja) j := fun j hj => by rw [e_u132, ovb_at hj]; show (u123 j + 96 * st.S (60 * ja + j)) % 97 = (1 * unit 0 j + 96 * sE E ja j) % 97; rw [h_u123 j hj, hS9 ja j ga hj, Nat.one_mul]
          have E133 : w131 = mW G a (⟨0, st.ex, st.va, st.co, st.sv, st.kn, st.kc, st.S, st.Kd, st.In, st.Hw, st.Fr, st.Gn, st.R, u114, u132, st.O, st.B, st.W⟩ : MS) := by rw [q130, E124]; rfl
          have h134 : w131[0]? = some (a.m, .inr (5, [.int (nI 0), .ref a.aS, .ref a.aK, .ref a.aI, .int (nI st.ex), .ref a.aH, .ref a.aF, .ref a.aG, .int (nI st.va), .ref a.aR, .int (nI st.co), .ref a.aL, .ref a.aT, .ref a.aO, .ref a.aB, .ref a.aW, .int (nI st.sv), .int (nI st.kn), .int (nI st.kc)])) := by rw [E133]; rfl
          have h135 : w131[8]? = some (a.aL, aI G 60 (rI u114)) := by rw [E133]; rfl
          have h136 : w131[9]? = some (a.aT, aI G 60 (rI u132)) := by rw [E133]; rfl
          have h137 : w131[10]? = some (a.aO, aI G 60 (rI st.O)) := by rw [E133]; rfl
          refine lv_aload_n hx hb d_M_claim_103 rfl (lv_at hl 0 rfl) ?_
          refine va_get (D := xD G) (ci := 5) (C := R_M) (T := F_M) (N := 19) hx hb ht in_M hown hK hP 0 h134 rfl 13 (by decide) (ht _ k_fl_M_41) (fun _ h9 => h9) rfl d_M_claim_104 ?_
          refine lv_iconst (v := (nI 0)) hx hb d_M_claim_107 (by decide) ?_
          refine x_callv (va_runS (As := [.ref a.aO, .int (nI 0)]) (rest := []) ⟨hx, hb, hml, hown, ht⟩ (c_M_number l G A w131 10 a.aO st.O h137 (nI 0)) (va_cwS 2 ht (TW_S k_ml_M_64 k_st_M_number k_in_M k_code_M_number) rfl rfl rfl hv_M_number.2 ⟨Nat.le_of_ble_eq_true rfl, Nat.le_of_ble_eq_true rfl⟩) ⟨x_blind, x_pre hE hA hS hP hD⟩ rfl rfl hl.1 rfl (lv_room (Nat.le_of_ble_eq_true rfl)) d_M_claim_108 ⟨Nat.le_of_ble_eq_true rfl, Nat.le_of_ble_eq_true rfl⟩) hS (fun w139 H locs q138 hP hD hS => ?_)
          have q138 : w139 = w131.set 10 (a.aO, aI G 60 (rI (ovb 60 0 st.O (nmb (rm (nI 0)))))) := q138
          obtain ⟨u140, e_u140⟩ : ∃ zz : Nat → Nat, zz = ovb 60 0 st.O (nmb (rm (nI 0))) := ⟨_, rfl⟩
          rw [← e_u140] at q138
          have h_u140 : ∀ j, j < 60 → u140 j = zr j := fun j hj => by rw [e_u140, ovb_at hj]; exact nmb0 j
          have E141 : w139 = mW G a (⟨0, st.ex, st.va, st.co, st.sv, st.kn, st.kc, st.S, st.Kd, st.In, st.Hw, st.Fr, st.Gn, st.R, u114, u132, u140, st.B, st.W⟩ : MS) := by rw [q138, E133]; rfl
          have h142 : w139[0]? = some (a.m, .inr (5, [.int (nI 0), .ref a.aS, .ref a.aK, .ref a.aI, .int (nI st.ex), .ref a.aH, .ref a.aF, .ref a.aG, .int (nI st.va), .ref a.aR, .int (nI st.co), .ref a.aL, .ref a.aT, .ref a.aO, .ref a.aB, .ref a.aW, .int (nI st.sv), .int (nI st.kn), .int (nI st.kc)])) := by rw [E141]; rfl
          have h143 : w139[8]? = some (a.aL, aI G 60 (rI u114)) := by rw [E141]; rfl
          have h144 : w139[9]? = some (a.aT, aI G 60 (rI u132)) := by rw [E141]; rfl
          have h145 : w139[10]? = some (a.aO, aI G 60 (rI u140)) := by rw [E141]; rfl
          refine lv_aload_n hx hb d_M_claim_111 rfl (lv_at hl 0 rfl) ?_
          refine lv_aload_n hx hb d_M_claim_112 rfl (lv_at hl 0 rfl) ?_
          refine va_get (D := xD G) (ci := 5) (C := R_M) (T := F_M) (N := 19) hx hb ht in_M hown hK hP 0 h142 rfl 10 (by decide) (ht _ k_fl_M_72) (fun _ h9 => h9) rfl d_M_claim_113 ?_
          refine lv_iconst (v := (nI 0)) hx hb d_M_claim_116 (by decide) ?_
          refine lv_aload_n hx hb d_M_claim_117 rfl (lv_at hl 0 rfl) ?_
          refine va_get (D := xD G) (ci := 5) (C := R_M) (T := F_M) (N := 19) hx hb ht in_M hown hK hP 0 h142 rfl 11 (by decide) (ht _ k_fl_M_35) (fun _ h9 => h9) rfl d_M_claim_118 ?_
          refine x_callv (va_runV (As := [.int (nI st.co), .int (nI 0), .ref a.aL]) (rest := []) ⟨hx, hb, hml, hown, ht⟩ (c_M_keep l G A w139 a (⟨0, st.ex, st.va, st.co, st.sv, st.kn, st.kc, st.S, st.Kd, st.In, st.Hw, st.Fr, st.Gn, st.R, u114, u132, u140, st.B, st.W⟩ : MS) E141 8 a.aL u114 h143 (by decide) st.co 0 (by omega) (by decide)) (cwV 3 ht (TW_V k_ml_M_79 k_im_M_keep k_se_M_keep k_in_M k_code_M_keep) rfl rfl rfl hv_M_keep ⟨Nat.le_of_ble_eq_true rfl, Nat.le_of_ble_eq_true rfl⟩) ⟨x_blind, va_recv hK hP rfl h142, x_pre hE hA hS hP hD⟩ rfl rfl hl.1 rfl (lv_room (Nat.le_of_ble_eq_true rfl)) d_M_claim_121 ⟨Nat.le_of_ble_eq_true rfl, Nat.le_of_ble_eq_true rfl⟩) hS (fun w147 H locs q146 hP hD hS => ?_)
          have E148 : w147 = mW G a (⟨0, st.ex, st.va, st.co, st.sv, st.kn, st.kc, st.S, st.Kd, st.In, st.Hw, st.Fr, st.Gn, (ovb 60 (180 * st.co + 60 * 0) st.R u114), u114, u132, u140, st.B, st.W⟩ : MS) := by rw [q146, E141]; rfl
          have h149 : w147[0]? = some (a.m, .inr (5, [.int (nI 0), .ref a.aS, .ref a.aK, .ref a.aI, .int (nI st.ex), .ref a.aH, .ref a.aF, .ref a.aG, .int (nI st.va), .ref a.aR, .int (nI st.co), .ref a.aL, .ref a.aT, .ref a.aO, .ref a.aB, .ref a.aW, .int (nI st.sv), .int (nI st.kn), .int (nI st.kc)])) := by rw [E148]; rfl
          have h150 : w147[8]? = some (a.aL, aI G 60 (rI u114)) := by rw [E148]; rfl
          have h151 : w147[9]? = some (a.aT, aI G 60 (rI u132)) := by rw [E148]; rfl
          have h152 : w147[10]? = some (a.aO, aI G 60 (rI u140)) := by rw [E148]; rfl
          refine lv_aload_n hx hb d_M_claim_124 rfl (lv_at hl 0 rfl) ?_
          refine lv_aload_n hx hb d_M_claim_125 rfl (lv_at hl 0 rfl) ?_
          refine va_get (D := xD G) (ci := 5) (C := R_M) (T := F_M) (N := 19) hx hb ht in_M hown hK hP 0 h149 rfl 10 (by decide) (ht _ k_fl_M_72) (fun _ h9 => h9) rfl d_M_claim_126 ?_
          refine lv_iconst (v := (nI 1)) hx hb d_M_claim_129 (by decide) ?_
          refine lv_aload_n hx hb d_M_claim_130 rfl (lv_at hl 0 rfl) ?_
          refine va_get (D := xD G) (ci := 5) (C := R_M) (T := F_M) (N := 19) hx hb ht in_M hown hK hP 0 h149 rfl 12 (by decide) (ht _ k_fl_M_38) (fun _ h9 => h9) rfl d_M_claim_131 ?_
          refine x_callv (va_runV (As := [.int (nI st.co), .int (nI 1), .ref a.aT]) (rest := []) ⟨hx, hb, hml, hown, ht⟩ (c_M_keep l G A w147 a (⟨0, st.ex, st.va, st.co, st.sv, st.kn, st.kc, st.S, st.Kd, st.In, st.Hw, st.Fr, st.Gn, (ovb 60 (180 * st.co + 60 * 0) st.R u114), u114, u132, u140, st.B, st.W⟩ : MS) E148 9 a.aT u132 h151 (by decide) st.co 1 (by omega) (by decide)) (cwV 3 ht (TW_V k_ml_M_79 k_im_M_keep k_se_M_keep k_in_M k_code_M_keep) rfl rfl rfl hv_M_keep ⟨Nat.le_of_ble_eq_true rfl, Nat.le_of_ble_eq_true rfl⟩) ⟨x_blind, va_recv hK hP rfl h149, x_pre hE hA hS hP hD⟩ rfl rfl hl.1 rfl (lv_room (Nat.le_of_ble_eq_true rfl)) d_M_claim_134 ⟨Nat.le_of_ble_eq_true rfl, Nat.le_of_ble_eq_true rfl⟩) hS (fun w154 H locs q153 hP hD hS => ?_)
          have E155 : w154 = mW G a (⟨0, st.ex, st.va, st.co, st.sv, st.kn, st.kc, st.S, st.Kd, st.In, st.Hw, st.Fr, st.Gn, (ovb 60 (180 * st.co + 60 * 1) (ovb 60 (180 * st.co + 60 * 0) st.R u114) u132), u114, u132, u140, st.B, st.W⟩ : MS) := by rw [q153, E148]; rfl
          have h156 : w154[0]? = some (a.m, .inr (5, [.int (nI 0), .ref a.aS, .ref a.aK, .ref a.aI, .int (nI st.ex), .ref a.aH, .ref a.aF, .ref a.aG, .int (nI st.va), .ref a.aR, .int (nI st.co), .ref a.aL, .ref a.aT, .ref a.aO, .ref a.aB, .ref a.aW, .int (nI st.sv), .int (nI st.kn), .int (nI st.kc)])) := by rw [E155]; rfl
          have h157 : w154[8]? = some (a.aL, aI G 60 (rI u114)) := by rw [E155]; rfl
          have h158 : w154[9]? = some (a.aT, aI G 60 (rI u132)) := by rw [E155]; rfl
          have h159 : w154[10]? = some (a.aO, aI G 60 (rI u140)) := by rw [E155]; rfl
          refine lv_aload_n hx hb d_M_claim_137 rfl (lv_at hl 0 rfl) ?_
          refine lv_aload_n hx hb d_M_claim_138 rfl (lv_at hl 0 rfl) ?_
          refine va_get (D := xD G) (ci := 5) (C := R_M) (T := F_M) (N := 19) hx hb ht in_M hown hK hP 0 h156 rfl 10 (by decide) (ht _ k_fl_M_72) (fun _ h9 => h9) rfl d_M_claim_139 ?_
          refine lv_iconst (v := (nI 2)) hx hb d_M_claim_142 (by decide) ?_
          refine lv_aload_n hx hb d_M_claim_143 rfl (lv_at hl 0 rfl) ?_
          refine va_get (D := xD G) (ci := 5) (C := R_M) (T := F_M) (N := 19) hx hb ht in_M hown hK hP 0 h156 rfl 13 (by decide) (ht _ k_fl_M_41) (fun _ h9 => h9) rfl d_M_claim_144 ?_
          refine x_callv (va_runV (As := [.int (nI st.co), .int (nI 2), .ref a.aO]) (rest := []) ⟨hx, hb, hml, hown, ht⟩ (c_M_keep l G A w154 a (⟨0, st.ex, st.va, st.co, st.sv, st.kn, st.kc, st.S, st.Kd, st.In, st.Hw, st.Fr, st.Gn, (ovb 60 (180 * st.co + 60 * 1) (ovb 60 (180 * st.co + 60 * 0) st.R u114) u132), u114, u132, u140, st.B, st.W⟩ : MS) E155 10 a.aO u140 h159 (by decide) st.co 2 (by omega) (by decide)) (cwV 3 ht (TW_V k_ml_M_79 k_im_M_keep k_se_M_keep k_in_M k_code_M_keep) rfl rfl rfl hv_M_keep ⟨Nat.le_of_ble_eq_true rfl, Nat.le_of_ble_eq_true rfl⟩) ⟨x_blind, va_recv hK hP rfl h156, x_pre hE hA hS hP hD⟩ rfl rfl hl.1 rfl (lv_room (Nat.le_of_ble_eq_true rfl)) d_M_claim_147 ⟨Nat.le_of_ble_eq_true rfl, Nat.le_of_ble_eq_true rfl⟩) hS (fun w161 H locs q160 hP hD hS => ?_)
          have E162 : w161 = mW G a (⟨0, st.ex, st.va, st.co, st.sv, st.kn, st.kc, st.S, st.Kd, st.In, st.Hw, st.Fr, st.Gn, (ovb 60 (180 * st.co + 60 * 2) (ovb 60 (180 * st.co + 60 * 1) (ovb 60 (180 * st.co + 60 * 0) st.R u114) u132) u140), u114, u132, u140, st.B, st.W⟩ : MS) := by rw [q160, E155]; rfl
          have h163 : w161[0]? = some (a.m, .inr (5, [.int (nI 0), .ref a.aS, .ref a.aK, .ref a.aI, .int (nI st.ex), .ref a.aH, .ref a.aF, .ref a.aG, .int (nI st.va), .ref a.aR, .int (nI st.co), .ref a.aL, .ref a.aT, .ref a.aO, .ref a.aB, .ref a.aW, .int (nI st.sv), .int (nI st.kn), .int (nI st.kc)])) := by rw [E162]; rfl
          have h164 : w161[8]? = some (a.aL, aI G 60 (rI u114)) := by rw [E162]; rfl
          have h165 : w161[9]? = some (a.aT, aI G 60 (rI u132)) := by rw [E162]; rfl
          have h166 : w161[10]? = some (a.aO, aI G 60 (rI u140)) := by rw [E162]; rfl
          refine lv_aload_n hx hb d_M_claim_150 rfl (lv_at hl 0 rfl) ?_
          refine lv_dup hx hb d_M_claim_151 rfl ?_
          refine va_get (D := xD G) (ci := 5) (C := R_M) (T := F_M) (N := 19) hx hb ht in_M hown hK hP 0 h163 rfl 10 (by decide) (ht _ k_fl_M_72) (fun _ h9 => h9) rfl d_M_claim_152 ?_
          refine lv_iconst (v := (nI 1)) hx hb d_M_claim_155 (by decide) ?_
          refine lv_iadd hx hb d_M_claim_156 ?_
          refine x_top (nI (st.co + 1)) (nI_add _ _) ?_
          refine va_put (D := xD G) (ci := 5) (v := .int (nI (st.co + 1))) (ty := .int) (C := R_M) (T := F_M) (N := 19) hx hb ht in_M ft_M fo_M nm_M hown hK hP hD hS 0 h163 rfl 10 (by decide) (ht _ k_fl_M_72) (fun _ h9 => h9) rfl (by decide +kernel) rfl rfl (Nat.le_of_ble_eq_true rfl) d_M_claim_157 (fun H locs hP hD hS => ?_)
          have hP : va_P (xD G) CL (w161.set 0 (a.m, .inr (5, [.int (nI 0), .ref a.aS, .ref a.aK, .ref a.aI, .int (nI st.ex), .ref a.aH, .ref a.aF, .ref a.aG, .int (nI st.va), .ref a.aR, .int (nI (st.co + 1)), .ref a.aL, .ref a.aT, .ref a.aO, .ref a.aB, .ref a.aW, .int (nI st.sv), .int (nI st.kn), .int (nI st.kc)]))) H := hP
          have hD : va_D A (w161.set 0 (a.m, .inr (5, [.int (nI 0), .ref a.aS, .ref a.aK, .ref a.aI, .int (nI st.ex), .ref a.aH, .ref a.aF, .ref a.aG, .int (nI st.va), .ref a.aR, .int (nI (st.co + 1)), .ref a.aL, .ref a.aT, .ref a.aO, .ref a.aB, .ref a.aW, .int (nI st.sv), .int (nI st.kn), .int (nI st.kc)]))) := hD
          obtain ⟨w167, e_w167⟩ : ∃ zz : va_W, zz = w161.set 0 (a.m, .inr (5, [.int (nI 0), .ref a.aS, .ref a.aK, .ref a.aI, .int (nI st.ex), .ref a.aH, .ref a.aF, .ref a.aG, .int (nI st.va), .ref a.aR, .int (nI (st.co + 1)), .ref a.aL, .ref a.aT, .ref a.aO, .ref a.aB, .ref a.aW, .int (nI st.sv), .int (nI st.kn), .int (nI st.kc)])) := ⟨_, rfl⟩
          rw [← e_w167] at hP hD
          have h168 : w167[0]? = some (a.m, .inr (5, [.int (nI 0), .ref a.aS, .ref a.aK, .ref a.aI, .int (nI st.ex), .ref a.aH, .ref a.aF, .ref a.aG, .int (nI st.va), .ref a.aR, .int (nI (st.co + 1)), .ref a.aL, .ref a.aT, .ref a.aO, .ref a.aB, .ref a.aW, .int (nI st.sv), .int (nI st.kn), .int (nI st.kc)])) := by rw [e_w167]; exact w_eq h163
          have E169 : w167 = mW G a (⟨0, st.ex, st.va, st.co + 1, st.sv, st.kn, st.kc, st.S, st.Kd, st.In, st.Hw, st.Fr, st.Gn, (ovb 60 (180 * st.co + 60 * 2) (ovb 60 (180 * st.co + 60 * 1) (ovb 60 (180 * st.co + 60 * 0) st.R u114) u132) u140), u114, u132, u140, st.B, st.W⟩ : MS) := by rw [e_w167, E162]; rfl
          have h170 : w167[0]? = some (a.m, .inr (5, [.int (nI 0), .ref a.aS, .ref a.aK, .ref a.aI, .int (nI st.ex), .ref a.aH, .ref a.aF, .ref a.aG, .int (nI st.va), .ref a.aR, .int (nI (st.co + 1)), .ref a.aL, .ref a.aT, .ref a.aO, .ref a.aB, .ref a.aW, .int (nI st.sv), .int (nI st.kn), .int (nI st.kc)])) := by rw [E169]; rfl
          have h171 : w167[8]? = some (a.aL, aI G 60 (rI u114)) := by rw [E169]; rfl
          have h172 : w167[9]? = some (a.aT, aI G 60 (rI u132)) := by rw [E169]; rfl
          have h173 : w167[10]? = some (a.aO, aI G 60 (rI u140)) := by rw [E169]; rfl
          refine lv_aload_n hx hb d_M_claim_160 rfl (lv_at hl 0 rfl) ?_
          refine va_get (D := xD G) (ci := 5) (C := R_M) (T := F_M) (N := 19) hx hb ht in_M hown hK hP 0 h170 rfl 10 (by decide) (ht _ k_fl_M_72) (fun _ h9 => h9) rfl d_M_claim_161 ?_
          refine lv_iconst (v := (nI 1)) hx hb d_M_claim_164 (by decide) ?_
          refine lv_isub hx hb d_M_claim_165 ?_
          refine x_top (nI ((st.co + 1) - 1)) (pk_sub (by omega)) ?_
          have ek : clK E (nI 1) (nI ja) x2 = (sE E ja, cmb 1 (unit 0) 96 (sE E ja), zr) := by simp [clK, ix_nI (show ja < 2 ^ 31 by omega), show ¬ nI 1 = nI 0 by decide]
          have rel : MRel (⟨0, st.ex, st.va, st.co + 1, st.sv, st.kn, st.kc, st.S, st.Kd, st.In, st.Hw, st.Fr, st.Gn, (ovb 60 (180 * st.co + 60 * 2) (ovb 60 (180 * st.co + 60 * 1) (ovb 60 (180 * st.co + 60 * 0) st.R u114) u132) u140), u114, u132, u140, st.B, st.W⟩ : MS) V E (K ++ [clK E (nI 1) (nI ja) x2]) inp w wV wC := by
            rw [ek]
            refine ⟨hM.1.add (Nat.le_refl _) (fun c t j hc ht9 hj => ?_) (fun t j ht9 hj => ?_), hM.2.1.mono, hM.2.2.1, hM.2.2.2.mono⟩
            · show (ovb 60 (180 * st.co + 60 * 2) (ovb 60 (180 * st.co + 60 * 1) (ovb 60 (180 * st.co + 60 * 0) st.R u114) u132) u140) (180 * c + 60 * t + j) = _
              rw [ovb_out (by omega), ovb_out (by omega), ovb_out (by omega)]
            · show (ovb 60 (180 * st.co + 60 * 2) (ovb 60 (180 * st.co + 60 * 1) (ovb 60 (180 * st.co + 60 * 0) st.R u114) u132) u140) (180 * K.length + 60 * t + j) = _ ∧ _
              have t9 : t = 0 ∨ t = 1 ∨ t = 2 := by omega
              rcases t9 with rfl | rfl | rfl
              · exact ⟨by rw [ovb_out (by omega), ovb_out (by omega), ovb_hit (j := j) (by omega) hj]; exact h_u114 j hj, hS8 ja j ga hj, fun q => hS7 ja j ga q hj⟩
              · exact ⟨by rw [ovb_out (by omega), ovb_hit (j := j) (by omega) hj]; exact h_u132 j hj, cmb_lt j, fun q => (show cmb 1 (unit 0) 96 (sE E ja) j = 0 by simp [cmb, unit_0 (show j ≠ 0 by omega), hS7 ja j ga q hj])⟩
              · exact ⟨by rw [ovb_hit (j := j) (by omega) hj]; exact h_u140 j hj, (by decide : 0 < 97), fun q => rfl⟩
          exact x_iret hx hb hr hlocks hS hP hD (Nat.le_of_ble_eq_true rfl) (Nat.le_of_ble_eq_true rfl) d_M_claim_166 (⟨_, E169, Or.inl ⟨rfl, by rw [Nat.add_sub_cancel, hco], Or.inr ⟨rfl, m108⟩, by omega, rel⟩⟩)
        · refine lv_aload_n hx hb d_M_claim_49 rfl (lv_at hl 0 rfl) ?_
          refine lv_iconst (v := (nI 2)) hx hb d_M_claim_50 (by decide) ?_
          refine x_calli (va_runV (As := [.int (nI 2)]) (rest := []) ⟨hx, hb, hml, hown, ht⟩ (c_M_raise l G A w2 a (⟨0, st.ex, st.va, st.co, st.sv, st.kn, st.kc, st.S, st.Kd, st.In, st.Hw, st.Fr, st.Gn, st.R, st.L, st.T, st.O, st.B, st.W⟩ : MS) E4 2) (cwV 1 ht (TW_V k_ml_M_117 k_im_M_raise k_se_M_raise k_in_M k_code_M_raise) rfl rfl rfl hv_M_raise ⟨Nat.le_of_ble_eq_true rfl, Nat.le_of_ble_eq_true rfl⟩) ⟨x_blind, va_recv hK hP rfl h5, x_pre hE hA hS hP hD⟩ rfl rfl hl.1 rfl (lv_room (Nat.le_of_ble_eq_true rfl)) d_M_claim_51 ⟨Nat.le_of_ble_eq_true rfl, Nat.le_of_ble_eq_true rfl⟩) hS (fun r176 w175 H locs q174 hP hD hS => ?_)
          obtain ⟨rfl, q174⟩ := q174
          have E177 : w175 = mW G a (⟨2, st.ex, st.va, st.co, st.sv, st.kn, st.kc, st.S, st.Kd, st.In, st.Hw, st.Fr, st.Gn, st.R, st.L, st.T, st.O, st.B, st.W⟩ : MS) := q174
          have h178 : w175[0]? = some (a.m, .inr (5, [.int (nI 2), .ref a.aS, .ref a.aK, .ref a.aI, .int (nI st.ex), .ref a.aH, .ref a.aF, .ref a.aG, .int (nI st.va), .ref a.aR, .int (nI st.co), .ref a.aL, .ref a.aT, .ref a.aO, .ref a.aB, .ref a.aW, .int (nI st.sv), .int (nI st.kn), .int (nI st.kc)])) := by rw [E177]; rfl
          exact x_iret hx hb hr hlocks hS hP hD (Nat.le_of_ble_eq_true rfl) (Nat.le_of_ble_eq_true rfl) d_M_claim_54 (⟨_, E177, Or.inr (Or.inr (⟨rfl, ⟨Or.inr ⟨rfl, m108⟩, by omega⟩, hM⟩))⟩)
      · have m108 : ¬ md E.length x1 := by rw [← hex]; exact m108
        refine x_if_eq hx hb 0 rfl (by decide) (tgt := 34) d_M_claim_19 (by decide) (fun c179 => ?_) (fun c179 => ?_)
        rotate_left
        · exact False.elim (by omega)
        refine lv_aload_n hx hb d_M_claim_34 rfl (lv_at hl 0 rfl) ?_
        refine lv_iconst (v := (nI 1)) hx hb d_M_claim_35 (by decide) ?_
        refine x_calli (va_runV (As := [.int (nI 1)]) (rest := []) ⟨hx, hb, hml, hown, ht⟩ (c_M_raise l G A w2 a (⟨0, st.ex, st.va, st.co, st.sv, st.kn, st.kc, st.S, st.Kd, st.In, st.Hw, st.Fr, st.Gn, st.R, st.L, st.T, st.O, st.B, st.W⟩ : MS) E4 1) (cwV 1 ht (TW_V k_ml_M_117 k_im_M_raise k_se_M_raise k_in_M k_code_M_raise) rfl rfl rfl hv_M_raise ⟨Nat.le_of_ble_eq_true rfl, Nat.le_of_ble_eq_true rfl⟩) ⟨x_blind, va_recv hK hP rfl h5, x_pre hE hA hS hP hD⟩ rfl rfl hl.1 rfl (lv_room (Nat.le_of_ble_eq_true rfl)) d_M_claim_36 ⟨Nat.le_of_ble_eq_true rfl, Nat.le_of_ble_eq_true rfl⟩) hS (fun r182 w181 H locs q180 hP hD hS => ?_)
        obtain ⟨rfl, q180⟩ := q180
        have E183 : w181 = mW G a (⟨1, st.ex, st.va, st.co, st.sv, st.kn, st.kc, st.S, st.Kd, st.In, st.Hw, st.Fr, st.Gn, st.R, st.L, st.T, st.O, st.B, st.W⟩ : MS) := q180
        have h184 : w181[0]? = some (a.m, .inr (5, [.int (nI 1), .ref a.aS, .ref a.aK, .ref a.aI, .int (nI st.ex), .ref a.aH, .ref a.aF, .ref a.aG, .int (nI st.va), .ref a.aR, .int (nI st.co), .ref a.aL, .ref a.aT, .ref a.aO, .ref a.aB, .ref a.aW, .int (nI st.sv), .int (nI st.kn), .int (nI st.kc)])) := by rw [E183]; rfl
        exact x_iret hx hb hr hlocks hS hP hD (Nat.le_of_ble_eq_true rfl) (Nat.le_of_ble_eq_true rfl) d_M_claim_39 (⟨_, E183, Or.inr (Or.inl ⟨rfl, fun q => by rcases q with q | q; exact m108 q.2.1; exact m108 q.2, hM⟩)⟩)
  · refine x_if_eq hx hb 0 rfl (by decide) (tgt := 34) d_M_claim_11 (by decide) (fun c185 => ?_) (fun c185 => ?_)
    rotate_left
    · exact False.elim (by omega)
    refine lv_aload_n hx hb d_M_claim_34 rfl (lv_at hl 0 rfl) ?_
    refine lv_iconst (v := (nI 1)) hx hb d_M_claim_35 (by decide) ?_
    refine x_calli (va_runV (As := [.int (nI 1)]) (rest := []) ⟨hx, hb, hml, hown, ht⟩ (c_M_raise l G A w2 a (⟨0, st.ex, st.va, st.co, st.sv, st.kn, st.kc, st.S, st.Kd, st.In, st.Hw, st.Fr, st.Gn, st.R, st.L, st.T, st.O, st.B, st.W⟩ : MS) E4 1) (cwV 1 ht (TW_V k_ml_M_117 k_im_M_raise k_se_M_raise k_in_M k_code_M_raise) rfl rfl rfl hv_M_raise ⟨Nat.le_of_ble_eq_true rfl, Nat.le_of_ble_eq_true rfl⟩) ⟨x_blind, va_recv hK hP rfl h5, x_pre hE hA hS hP hD⟩ rfl rfl hl.1 rfl (lv_room (Nat.le_of_ble_eq_true rfl)) d_M_claim_36 ⟨Nat.le_of_ble_eq_true rfl, Nat.le_of_ble_eq_true rfl⟩) hS (fun r188 w187 H locs q186 hP hD hS => ?_)
    obtain ⟨rfl, q186⟩ := q186
    have E189 : w187 = mW G a (⟨1, st.ex, st.va, st.co, st.sv, st.kn, st.kc, st.S, st.Kd, st.In, st.Hw, st.Fr, st.Gn, st.R, st.L, st.T, st.O, st.B, st.W⟩ : MS) := q186
    have h190 : w187[0]? = some (a.m, .inr (5, [.int (nI 1), .ref a.aS, .ref a.aK, .ref a.aI, .int (nI st.ex), .ref a.aH, .ref a.aF, .ref a.aG, .int (nI st.va), .ref a.aR, .int (nI st.co), .ref a.aL, .ref a.aT, .ref a.aO, .ref a.aB, .ref a.aW, .int (nI st.sv), .int (nI st.kn), .int (nI st.kc)])) := by rw [E189]; rfl
    exact x_iret hx hb hr hlocks hS hP hD (Nat.le_of_ble_eq_true rfl) (Nat.le_of_ble_eq_true rfl) d_M_claim_39 (⟨_, E189, Or.inr (Or.inl ⟨rfl, fun q => by rcases q with q | q; exact not_or2 m12 ((in_mdn (by decide)).mpr ⟨0, by decide, q.1⟩); exact not_or2 m12 ((in_mdn (by decide)).mpr ⟨1, by decide, q.1⟩), hM⟩)⟩)
