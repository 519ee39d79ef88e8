theorem mW_B {G : xG} {a : MA} {st : MS} {f : Nat → Nat} : (mW G a st).set 11 (a.aB, aI G 60 (rI f)) = mW G a (⟨st.th, st.ex, st.va, st.co, st.sv, st.kn, st.kc, st.S, st.Kd, st.In, st.Hw, st.Fr, st.Gn, st.R, st.L, st.T, st.O, f, st.W⟩ : MS) := by
  unfold mW
  simp only [List.set_cons_succ, List.set_cons_zero]

theorem mW_W {G : xG} {a : MA} {st : MS} {f : Nat → Nat} : (mW G a st).set 12 (a.aW, aI G 60 (rI f)) = mW G a (⟨st.th, st.ex, st.va, st.co, st.sv, st.kn, st.kc, st.S, st.Kd, st.In, st.Hw, st.Fr, st.Gn, st.R, st.L, st.T, st.O, st.B, f⟩ : MS) := by
  unfold mW
  simp only [List.set_cons_succ, List.set_cons_zero]

set_option maxHeartbeats 4000000 in
set_option maxRecDepth 100000 in
theorem m_tamper (l : Launch) (G : xG) (A : Nat → Prop) (ws : va_W) (a : MA) (st : MS) (hw : ws = mW G a st) (V : List VV) (E : List EE) (K : List KK) (inp : Nat) (w : Nat → Nat) (wV wC : Nat) (hM : MRel st V E K inp w wV wC) (hI : okI V E K inp wV wC) (x1 x2 : Int32) : Met l y_M_tamper (cw_M_tamper :: TW) { frames := 7, cells := 0, slots := 0, locals := 182 } (va_Pc [.ref a.m, .int x1, .int x2] (x_P G A ws)) (qI G A (fun r w9 => ∃ st' : MS, w9 = mW G a st' ∧ ((st'.th = 0 ∧ 0 < wV ∧ ∃ j, 1 ≤ j ∧ j < wV ∧ x1 = nI j ∧ r = nI (w j) ∧ MRel st' V E K inp (va_up w j (rm x2)) wV wC) ∨ (st'.th = 1 ∧ (wV = 0) ∧ MRel st' V E K inp w wV wC) ∨ (st'.th = 2 ∧ (0 < wV ∧ ¬ ∃ j, 1 ≤ j ∧ j < wV ∧ x1 = nI j) ∧ MRel st' V E K inp w wV wC)))) 0 0 A := by
  refine Met.ofW (cc := b_M_tamper) (maxL := 4) (ret := (some .int)) (by decide) rfl ?_
  intro p e s m args below meth c s₁ B hml hv
  obtain ⟨rfl, hE, hA, hP, hD⟩ := hv
  have hx := B.exec
  have hb := B.bytes
  have hr := B.returns
  have ht : ∀ w ∈ TW, w.before _ s = true := fun w h => atoms_spec (ws := cw_M_tamper :: TW) B.pre w (List.mem_cons_of_mem _ h)
  have hown : s.vm.findClass R_M = some m.cls := findClass_of_methodNamed B.named
  have hlocks := B.notSynchronized
  have hK := hE.1
  have hS : va_S A s.heap s.heap [] := va_S.rf
  have hl := lv_entry ([.ref a.m, .int x1, .int x2]) (n := 4) (Nat.le_of_ble_eq_true rfl)
  rw [lg_entry_eq]
  generalize (lg_sl ([.ref a.m, .int x1, .int x2]) ++ List.replicate (4 - (lg_sl ([.ref a.m, .int x1, .int x2])).length) Slot.unset).toArray = ls at hl ⊢
  have hl : lv_has ls 4 [(0, .ref a.m), (1, .int x1), (2, .int x2)] := hl
  obtain ⟨i1, i2, i3, i4, i5, i6, i7, i8, i9⟩ := id hI
  have hco := hM.1.1
  have hva := hM.2.1.1
  have hex := hM.2.2.1.1
  have hS9 : ∀ e9 j, e9 < E.length → j < 60 → st.S (60 * e9 + j) = sE E e9 j := fun e9 j h1 h2 => (hM.2.2.1.2.1 e9 j h1 h2).1
  have hS8 : ∀ e9 j, e9 < E.length → j < 60 → sE E e9 j < 97 := fun e9 j h1 h2 => (hM.2.2.1.2.1 e9 j h1 h2).2.1
  have hS6 : ∀ e9, e9 < E.length → ∀ j, j < 60 → st.S (60 * e9 + j) < 97 := fun e9 h1 j h2 => by rw [hS9 e9 j h1 h2]; exact hS8 e9 j h1 h2
  have hS7 : ∀ e9 j, e9 < E.length → V.length ≤ j → j < 60 → sE E e9 j = 0 := fun e9 j h1 h3 h2 => (hM.2.2.1.2.1 e9 j h1 h2).2.2 h3
  have hsv := hM.2.2.2.2.2.1
  have sv1 : st.sv ≤ 1 := by rw [hsv]; split <;> omega
  have sv0 : st.sv = 0 ↔ wV = 0 := by rw [hsv]; split <;> omega
  have hkn := hM.2.2.2.1
  have hkc := hM.2.2.2.2.1
  have h1 : ws[0]? = some (a.m, .inr (5, [.int (nI st.th), .ref a.aS, .ref a.aK, .ref a.aI, .int (nI st.ex), .ref a.aH, .ref a.aF, .ref a.aG, .int (nI st.va), .ref a.aR, .int (nI st.co), .ref a.aL, .ref a.aT, .ref a.aO, .ref a.aB, .ref a.aW, .int (nI st.sv), .int (nI st.kn), .int (nI st.kc)])) := by rw [hw]; rfl
  refine lv_aload_n hx hb d_M_tamper_0 rfl (lv_at hl 0 rfl) ?_
  refine lv_iconst (v := (nI 0)) hx hb d_M_tamper_1 (by decide) ?_
  refine va_put (D := xD G) (ci := 5) (v := .int (nI 0)) (ty := .int) (C := R_M) (T := F_M) (N := 19) hx hb ht in_M ft_M fo_M nm_M hown hK hP hD hS 0 h1 rfl 0 (by decide) (ht _ k_fl_M_50) (fun _ h9 => h9) rfl (by decide +kernel) rfl rfl (Nat.le_of_ble_eq_true rfl) d_M_tamper_2 (fun H locs hP hD hS => ?_)
  have hP : va_P (xD G) CL (ws.set 0 (a.m, .inr (5, [.int (nI 0), .ref a.aS, .ref a.aK, .ref a.aI, .int (nI st.ex), .ref a.aH, .ref a.aF, .ref a.aG, .int (nI st.va), .ref a.aR, .int (nI st.co), .ref a.aL, .ref a.aT, .ref a.aO, .ref a.aB, .ref a.aW, .int (nI st.sv), .int (nI st.kn), .int (nI st.kc)]))) H := hP
  have hD : va_D A (ws.set 0 (a.m, .inr (5, [.int (nI 0), .ref a.aS, .ref a.aK, .ref a.aI, .int (nI st.ex), .ref a.aH, .ref a.aF, .ref a.aG, .int (nI st.va), .ref a.aR, .int (nI st.co), .ref a.aL, .ref a.aT, .ref a.aO, .ref a.aB, .ref a.aW, .int (nI st.sv), .int (nI st.kn), .int (nI st.kc)]))) := hD
  obtain ⟨w2, e_w2⟩ : ∃ zz : va_W, zz = ws.set 0 (a.m, .inr (5, [.int (nI 0), .ref a.aS, .ref a.aK, .ref a.aI, .int (nI st.ex), .ref a.aH, .ref a.aF, .ref a.aG, .int (nI st.va), .ref a.aR, .int (nI st.co), .ref a.aL, .ref a.aT, .ref a.aO, .ref a.aB, .ref a.aW, .int (nI st.sv), .int (nI st.kn), .int (nI st.kc)])) := ⟨_, rfl⟩
  rw [← e_w2] at hP hD
  have h3 : w2[0]? = some (a.m, .inr (5, [.int (nI 0), .ref a.aS, .ref a.aK, .ref a.aI, .int (nI st.ex), .ref a.aH, .ref a.aF, .ref a.aG, .int (nI st.va), .ref a.aR, .int (nI st.co), .ref a.aL, .ref a.aT, .ref a.aO, .ref a.aB, .ref a.aW, .int (nI st.sv), .int (nI st.kn), .int (nI st.kc)])) := by rw [e_w2]; exact w_eq h1
  have E4 : w2 = mW G a (⟨0, st.ex, st.va, st.co, st.sv, st.kn, st.kc, st.S, st.Kd, st.In, st.Hw, st.Fr, st.Gn, st.R, st.L, st.T, st.O, st.B, st.W⟩ : MS) := by rw [e_w2, hw]; rfl
  have h5 : w2[0]? = some (a.m, .inr (5, [.int (nI 0), .ref a.aS, .ref a.aK, .ref a.aI, .int (nI st.ex), .ref a.aH, .ref a.aF, .ref a.aG, .int (nI st.va), .ref a.aR, .int (nI st.co), .ref a.aL, .ref a.aT, .ref a.aO, .ref a.aB, .ref a.aW, .int (nI st.sv), .int (nI st.kn), .int (nI st.kc)])) := by rw [E4]; rfl
  have h6 : w2[12]? = some (a.aW, aI G 60 (rI st.W)) := by rw [E4]; rfl
  refine lv_aload_n hx hb d_M_tamper_5 rfl (lv_at hl 0 rfl) ?_
  refine va_get (D := xD G) (ci := 5) (C := R_M) (T := F_M) (N := 19) hx hb ht in_M hown hK hP 0 h5 rfl 16 (by decide) (ht _ k_fl_M_135) (fun _ h9 => h9) rfl d_M_tamper_6 ?_
  refine x_if_ne hx hb st.sv rfl (by omega) (tgt := 18) d_M_tamper_9 (by decide) (fun c7 => ?_) (fun c7 => ?_)
  · refine lv_iload_n hx hb d_M_tamper_18 rfl (lv_at hl 1 rfl) ?_
    refine lv_iconst (v := (nI 1)) hx hb d_M_tamper_19 (by decide) ?_
    refine lv_aload_n hx hb d_M_tamper_20 rfl (lv_at hl 0 rfl) ?_
    refine va_get (D := xD G) (ci := 5) (C := R_M) (T := F_M) (N := 19) hx hb ht in_M hown hK hP 0 h5 rfl 17 (by decide) (ht _ k_fl_M_139) (fun _ h9 => h9) rfl d_M_tamper_21 ?_
    refine lv_iconst (v := (nI 1)) hx hb d_M_tamper_24 (by decide) ?_
    refine lv_isub hx hb d_M_tamper_25 ?_
    refine x_calli (va_runS (As := [.int x1, .int (nI 1), .int (nI st.kn - nI 1)]) (rest := []) ⟨hx, hb, hml, hown, ht⟩ (c_M_in l G A w2 x1 (nI 1) (nI st.kn - nI 1)) (va_cwS 3 ht (TW_S k_ml_M_56 k_st_M_in k_in_M k_code_M_in) rfl rfl rfl hv_M_in.2 ⟨Nat.le_of_ble_eq_true rfl, Nat.le_of_ble_eq_true rfl⟩) ⟨x_blind, x_pre hE hA hS hP hD⟩ rfl rfl hl.1 rfl (lv_room (Nat.le_of_ble_eq_true rfl)) d_M_tamper_26 ⟨Nat.le_of_ble_eq_true rfl, Nat.le_of_ble_eq_true rfl⟩) hS (fun r10 w9 H locs q8 hP hD hS => ?_)
    obtain ⟨rfl, ⟨rfl, m11⟩ | ⟨rfl, m11⟩⟩ := q8
    · refine x_if_ne hx hb 1 rfl (by decide) (tgt := 38) d_M_tamper_29 (by decide) (fun c12 => ?_) (fun c12 => ?_)
      rotate_left
      · exact False.elim (by omega)
      obtain ⟨j9, j1, j2, rfl⟩ := (in_md1 (by omega)).mp m11
      obtain ⟨z1, z2, z3, z4, z5, z6, z8, z7⟩ := id hM.2.2.2
      refine lv_aload_n hx hb d_M_tamper_38 rfl (lv_at hl 0 rfl) ?_
      refine va_get (D := xD G) (ci := 5) (C := R_M) (T := F_M) (N := 19) hx hb ht in_M hown hK hP 0 h5 rfl 15 (by decide) (ht _ k_fl_M_47) (fun _ h9 => h9) rfl d_M_tamper_39 ?_
      refine lv_iload_n hx hb d_M_tamper_42 rfl (lv_at hl 1 rfl) ?_
      refine x_iald hx hb hK hP h6 j9 rfl (by omega) (by omega) d_M_tamper_43 ?_
      refine x_top (nI (st.W j9)) (rfl) ?_
      refine lv_istore_n (lv' := [(3, .int (nI (st.W j9))), (0, .ref a.m), (1, .int (nI j9)), (2, .int x2)]) hx hb d_M_tamper_44 rfl hl (by decide) rfl (fun ls hl => ?_)
      refine lv_aload_n hx hb d_M_tamper_45 rfl (lv_at hl 1 rfl) ?_
      refine va_get (D := xD G) (ci := 5) (C := R_M) (T := F_M) (N := 19) hx hb ht in_M hown hK hP 0 h5 rfl 15 (by decide) (ht _ k_fl_M_47) (fun _ h9 => h9) rfl d_M_tamper_46 ?_
      refine lv_iload_n hx hb d_M_tamper_49 rfl (lv_at hl 2 rfl) ?_
      refine lv_iload_n hx hb d_M_tamper_50 rfl (lv_at hl 3 rfl) ?_
      refine x_calli (va_runS (As := [.int x2]) (rest := [.int (nI j9), .ref a.aW]) ⟨hx, hb, hml, hown, ht⟩ (c_M_rest l G A w2 x2) (va_cwS 1 ht (TW_S k_ml_M_60 k_st_M_rest k_in_M k_code_M_rest) rfl rfl rfl hv_M_rest.2 ⟨Nat.le_of_ble_eq_true rfl, Nat.le_of_ble_eq_true rfl⟩) ⟨x_blind, x_pre hE hA hS hP hD⟩ rfl rfl hl.1 rfl (lv_room (Nat.le_of_ble_eq_true rfl)) d_M_tamper_51 ⟨Nat.le_of_ble_eq_true rfl, Nat.le_of_ble_eq_true rfl⟩) hS (fun r15 w14 H locs q13 hP hD hS => ?_)
      obtain ⟨rfl, rfl⟩ := q13
      refine x_iast hx hb hK hP hD hS h6 j9 rfl (by omega) (by omega) d_M_tamper_54 (fun H locs hP hD hS => ?_)
      have hP : va_P (xD G) CL (w2.set 12 (a.aW, aI G 60 (upd (rI st.W) j9 (nI (rm x2))))) H := hP
      have hD : va_D A (w2.set 12 (a.aW, aI G 60 (upd (rI st.W) j9 (nI (rm x2))))) := hD
      obtain ⟨w16, e_w16⟩ : ∃ zz : va_W, zz = w2.set 12 (a.aW, aI G 60 (upd (rI st.W) j9 (nI (rm x2)))) := ⟨_, rfl⟩
      rw [← e_w16] at hP hD
      have h17 : w16[12]? = some (a.aW, aI G 60 (upd (rI st.W) j9 (nI (rm x2)))) := by rw [e_w16]; exact w_eq h6
      have E18 : w16 = mW G a (⟨0, st.ex, st.va, st.co, st.sv, st.kn, st.kc, st.S, st.Kd, st.In, st.Hw, st.Fr, st.Gn, st.R, st.L, st.T, st.O, st.B, (va_up st.W j9 (rm x2))⟩ : MS) := by rw [e_w16, E4, up_rI]; exact mW_W
      have h19 : w16[0]? = some (a.m, .inr (5, [.int (nI 0), .ref a.aS, .ref a.aK, .ref a.aI, .int (nI st.ex), .ref a.aH, .ref a.aF, .ref a.aG, .int (nI st.va), .ref a.aR, .int (nI st.co), .ref a.aL, .ref a.aT, .ref a.aO, .ref a.aB, .ref a.aW, .int (nI st.sv), .int (nI st.kn), .int (nI st.kc)])) := by rw [E18]; rfl
      have h20 : w16[12]? = some (a.aW, aI G 60 (rI (va_up st.W j9 (rm x2)))) := by rw [E18]; rfl
      refine lv_iload_n hx hb d_M_tamper_55 rfl (lv_at hl 0 rfl) ?_
      have rel : MRel (⟨0, st.ex, st.va, st.co, st.sv, st.kn, st.kc, st.S, st.Kd, st.In, st.Hw, st.Fr, st.Gn, st.R, st.L, st.T, st.O, st.B, (va_up st.W j9 (rm x2))⟩ : MS) V E K inp (va_up w j9 (rm x2)) wV wC := ⟨hM.1, hM.2.1, hM.2.2.1, RW.put hM.2.2.2 j9 (rm_lt x2)⟩
      exact x_iret hx hb hr hlocks hS hP hD (Nat.le_of_ble_eq_true rfl) (Nat.le_of_ble_eq_true rfl) d_M_tamper_56 (⟨_, E18, Or.inl ⟨rfl, by omega, j9, j1, by omega, rfl, by rw [z4 j9 (by omega)], rel⟩⟩)
    · refine x_if_ne hx hb 0 rfl (by decide) (tgt := 38) d_M_tamper_29 (by decide) (fun c21 => ?_) (fun c21 => ?_)
      · exact False.elim (by omega)
      refine lv_aload_n hx hb d_M_tamper_32 rfl (lv_at hl 0 rfl) ?_
      refine lv_iconst (v := (nI 2)) hx hb d_M_tamper_33 (by decide) ?_
      refine x_calli (va_runV (As := [.int (nI 2)]) (rest := []) ⟨hx, hb, hml, hown, ht⟩ (c_M_raise l G A w2 a (⟨0, st.ex, st.va, st.co, st.sv, st.kn, st.kc, st.S, st.Kd, st.In, st.Hw, st.Fr, st.Gn, st.R, st.L, st.T, st.O, st.B, st.W⟩ : MS) E4 2) (cwV 1 ht (TW_V k_ml_M_117 k_im_M_raise k_se_M_raise k_in_M k_code_M_raise) rfl rfl rfl hv_M_raise ⟨Nat.le_of_ble_eq_true rfl, Nat.le_of_ble_eq_true rfl⟩) ⟨x_blind, va_recv hK hP rfl h5, x_pre hE hA hS hP hD⟩ rfl rfl hl.1 rfl (lv_room (Nat.le_of_ble_eq_true rfl)) d_M_tamper_34 ⟨Nat.le_of_ble_eq_true rfl, Nat.le_of_ble_eq_true rfl⟩) hS (fun r24 w23 H locs q22 hP hD hS => ?_)
      obtain ⟨rfl, q22⟩ := q22
      have E25 : w23 = mW G a (⟨2, st.ex, st.va, st.co, st.sv, st.kn, st.kc, st.S, st.Kd, st.In, st.Hw, st.Fr, st.Gn, st.R, st.L, st.T, st.O, st.B, st.W⟩ : MS) := q22
      have h26 : w23[0]? = some (a.m, .inr (5, [.int (nI 2), .ref a.aS, .ref a.aK, .ref a.aI, .int (nI st.ex), .ref a.aH, .ref a.aF, .ref a.aG, .int (nI st.va), .ref a.aR, .int (nI st.co), .ref a.aL, .ref a.aT, .ref a.aO, .ref a.aB, .ref a.aW, .int (nI st.sv), .int (nI st.kn), .int (nI st.kc)])) := by rw [E25]; rfl
      exact x_iret hx hb hr hlocks hS hP hD (Nat.le_of_ble_eq_true rfl) (Nat.le_of_ble_eq_true rfl) d_M_tamper_37 (⟨_, E25, Or.inr (Or.inr (⟨rfl, ⟨by omega, fun q => not_or2 m11 ((in_md1 (by omega)).mpr (by rw [hkn]; exact q))⟩, hM⟩))⟩)
  · refine lv_aload_n hx hb d_M_tamper_12 rfl (lv_at hl 0 rfl) ?_
    refine lv_iconst (v := (nI 1)) hx hb d_M_tamper_13 (by decide) ?_
    refine x_calli (va_runV (As := [.int (nI 1)]) (rest := []) ⟨hx, hb, hml, hown, ht⟩ (c_M_raise l G A w2 a (⟨0, st.ex, st.va, st.co, st.sv, st.kn, st.kc, st.S, st.Kd, st.In, st.Hw, st.Fr, st.Gn, st.R, st.L, st.T, st.O, st.B, st.W⟩ : MS) E4 1) (cwV 1 ht (TW_V k_ml_M_117 k_im_M_raise k_se_M_raise k_in_M k_code_M_raise) rfl rfl rfl hv_M_raise ⟨Nat.le_of_ble_eq_true rfl, Nat.le_of_ble_eq_true rfl⟩) ⟨x_blind, va_recv hK hP rfl h5, x_pre hE hA hS hP hD⟩ rfl rfl hl.1 rfl (lv_room (Nat.le_of_ble_eq_true rfl)) d_M_tamper_14 ⟨Nat.le_of_ble_eq_true rfl, Nat.le_of_ble_eq_true rfl⟩) hS (fun r29 w28 H locs q27 hP hD hS => ?_)
    obtain ⟨rfl, q27⟩ := q27
    have E30 : w28 = mW G a (⟨1, st.ex, st.va, st.co, st.sv, st.kn, st.kc, st.S, st.Kd, st.In, st.Hw, st.Fr, st.Gn, st.R, st.L, st.T, st.O, st.B, st.W⟩ : MS) := q27
    have h31 : w28[0]? = some (a.m, .inr (5, [.int (nI 1), .ref a.aS, .ref a.aK, .ref a.aI, .int (nI st.ex), .ref a.aH, .ref a.aF, .ref a.aG, .int (nI st.va), .ref a.aR, .int (nI st.co), .ref a.aL, .ref a.aT, .ref a.aO, .ref a.aB, .ref a.aW, .int (nI st.sv), .int (nI st.kn), .int (nI st.kc)])) := by rw [E30]; rfl
    exact x_iret hx hb hr hlocks hS hP hD (Nat.le_of_ble_eq_true rfl) (Nat.le_of_ble_eq_true rfl) d_M_tamper_17 (⟨_, E30, Or.inr (Or.inl ⟨rfl, sv0.mp c7, hM⟩)⟩)
