theorem cp_K {f g f2 g2 : Nat → Nat} (hf : ∀ j, j < 60 → f j = f2 j) (hg : ∀ j, j < 60 → g j = g2 j) : (isK f ∨ isK g) ↔ cp f2 g2 = 0 := by
  rw [isK_c hf, isK_c hg]
  unfold cp
  by_cases q : lastV f2 59 = 0 ∨ lastV g2 59 = 0
  · rw [if_pos q]; exact ⟨fun _ => rfl, fun _ => q⟩
  · rw [if_neg q]; exact ⟨fun z => absurd z q, fun z => absurd z (by decide)⟩
theorem cp_01 (f g : Nat → Nat) : cp f g = 0 ∨ cp f g = 1 := by unfold cp; split <;> simp

set_option maxHeartbeats 4000000 in
set_option maxRecDepth 100000 in
theorem c_M_plain (l : Launch) (G : xG) (A : Nat → Prop) (ws : va_W) (a : MA) (st : MS) (hw : ws = mW G a st) (V : List VV) (E : List EE) (K : List KK) (inp : Nat) (w : Nat → Nat) (wV wC : Nat) (hM : MRel st V E K inp w wV wC) (ja jb jc : Nat) (ga : ja < E.length) (gb : jb < E.length) (gc : jc < E.length) (bE : E.length ≤ 60) : Met l y_M_plainEither (cw_M_plainEither :: TW) { frames := 3, cells := 0, slots := 0, locals := 78 } (va_Pc [.ref a.m, .int (nI ja), .int (nI jb), .int (nI jc)] (x_P G A ws)) (qI G A (fun r w9 => ∃ O9 : Nat → Nat, w9 = mW G a (⟨st.th, st.ex, st.va, st.co, st.sv, st.kn, st.kc, st.S, st.Kd, st.In, st.Hw, st.Fr, st.Gn, st.R, st.L, st.T, O9, st.B, st.W⟩ : MS) ∧ ((r = nI 1 ∧ cp (sE E jc) (cmb 1 (sE E ja) 96 (sE E jb)) = 0) ∨ (r = nI 0 ∧ cp (sE E jc) (cmb 1 (sE E ja) 96 (sE E jb)) = 1)))) 0 0 A := by
  refine Met.ofW (cc := b_M_plainEither) (maxL := 4) (ret := (some .boolean)) (by decide) rfl ?_
  intro p e s m args below meth c s₁ B hml hv
  obtain ⟨rfl, hE, hA, hP, hD⟩ := hv
  have hx := B.exec
  have hb := B.bytes
  have hr := B.returns
  have ht : ∀ w ∈ TW, w.before _ s = true := fun w h => atoms_spec (ws := cw_M_plainEither :: TW) B.pre w (List.mem_cons_of_mem _ h)
  have hown : s.vm.findClass R_M = some m.cls := findClass_of_methodNamed B.named
  have hlocks := B.notSynchronized
  have hK := hE.1
  have hS : va_S A s.heap s.heap [] := va_S.rf
  have hl := lv_entry ([.ref a.m, .int (nI ja), .int (nI jb), .int (nI jc)]) (n := 4) (Nat.le_of_ble_eq_true rfl)
  rw [lg_entry_eq]
  generalize (lg_sl ([.ref a.m, .int (nI ja), .int (nI jb), .int (nI jc)]) ++ List.replicate (4 - (lg_sl ([.ref a.m, .int (nI ja), .int (nI jb), .int (nI jc)])).length) Slot.unset).toArray = ls at hl ⊢
  have hl : lv_has ls 4 [(0, .ref a.m), (1, .int (nI ja)), (2, .int (nI jb)), (3, .int (nI jc))] := hl
  have hco := hM.1.1
  have hva := hM.2.1.1
  have hex := hM.2.2.1.1
  have hS9 : ∀ e9 j, e9 < E.length → j < 60 → st.S (60 * e9 + j) = sE E e9 j := fun e9 j h1 h2 => (hM.2.2.1.2.1 e9 j h1 h2).1
  have hS8 : ∀ e9 j, e9 < E.length → j < 60 → sE E e9 j < 97 := fun e9 j h1 h2 => (hM.2.2.1.2.1 e9 j h1 h2).2.1
  have hS6 : ∀ e9, e9 < E.length → ∀ j, j < 60 → st.S (60 * e9 + j) < 97 := fun e9 h1 j h2 => by rw [hS9 e9 j h1 h2]; exact hS8 e9 j h1 h2
  have hS7 : ∀ e9 j, e9 < E.length → V.length ≤ j → j < 60 → sE E e9 j = 0 := fun e9 j h1 h3 h2 => (hM.2.2.1.2.1 e9 j h1 h2).2.2 h3
  have h1 : ws[0]? = some (a.m, .inr (5, [.int (nI st.th), .ref a.aS, .ref a.aK, .ref a.aI, .int (nI st.ex), .ref a.aH, .ref a.aF, .ref a.aG, .int (nI st.va), .ref a.aR, .int (nI st.co), .ref a.aL, .ref a.aT, .ref a.aO, .ref a.aB, .ref a.aW, .int (nI st.sv), .int (nI st.kn), .int (nI st.kc)])) := by rw [hw]; rfl
  have h2 : ws[10]? = some (a.aO, aI G 60 (rI st.O)) := by rw [hw]; rfl
  refine lv_aload_n hx hb d_M_plainEither_0 rfl (lv_at hl 0 rfl) ?_
  refine va_get (D := xD G) (ci := 5) (C := R_M) (T := F_M) (N := 19) hx hb ht in_M hown hK hP 0 h1 rfl 13 (by decide) (ht _ k_fl_M_41) (fun _ h9 => h9) rfl d_M_plainEither_1 ?_
  refine lv_iconst (v := (nI 0)) hx hb d_M_plainEither_4 (by decide) ?_
  refine x_callv (va_runS (As := [.ref a.aO, .int (nI 0)]) (rest := []) ⟨hx, hb, hml, hown, ht⟩ (c_M_number l G A ws 10 a.aO st.O h2 (nI 0)) (va_cwS 2 ht (TW_S k_ml_M_64 k_st_M_number k_in_M k_code_M_number) rfl rfl rfl hv_M_number.2 ⟨Nat.le_of_ble_eq_true rfl, Nat.le_of_ble_eq_true rfl⟩) ⟨x_blind, x_pre hE hA hS hP hD⟩ rfl rfl hl.1 rfl (lv_room (Nat.le_of_ble_eq_true rfl)) d_M_plainEither_5 ⟨Nat.le_of_ble_eq_true rfl, Nat.le_of_ble_eq_true rfl⟩) hS (fun w4 H locs q3 hP hD hS => ?_)
  have q3 : w4 = ws.set 10 (a.aO, aI G 60 (rI (ovb 60 0 st.O (nmb (rm (nI 0)))))) := q3
  obtain ⟨u5, e_u5⟩ : ∃ zz : Nat → Nat, zz = ovb 60 0 st.O (nmb (rm (nI 0))) := ⟨_, rfl⟩
  rw [← e_u5] at q3
  have h_u5 : ∀ j, j < 60 → u5 j = zr j := fun j hj => by rw [e_u5, ovb_at hj]; exact nmb0 j
  have E6 : w4 = mW G a (⟨st.th, st.ex, st.va, st.co, st.sv, st.kn, st.kc, st.S, st.Kd, st.In, st.Hw, st.Fr, st.Gn, st.R, st.L, st.T, u5, st.B, st.W⟩ : MS) := by rw [q3, hw]; rfl
  have h7 : w4[0]? = some (a.m, .inr (5, [.int (nI st.th), .ref a.aS, .ref a.aK, .ref a.aI, .int (nI st.ex), .ref a.aH, .ref a.aF, .ref a.aG, .int (nI st.va), .ref a.aR, .int (nI st.co), .ref a.aL, .ref a.aT, .ref a.aO, .ref a.aB, .ref a.aW, .int (nI st.sv), .int (nI st.kn), .int (nI st.kc)])) := by rw [E6]; rfl
  have h8 : w4[10]? = some (a.aO, aI G 60 (rI u5)) := by rw [E6]; rfl
  refine lv_aload_n hx hb d_M_plainEither_8 rfl (lv_at hl 0 rfl) ?_
  refine lv_aload_n hx hb d_M_plainEither_9 rfl (lv_at hl 0 rfl) ?_
  refine va_get (D := xD G) (ci := 5) (C := R_M) (T := F_M) (N := 19) hx hb ht in_M hown hK hP 0 h7 rfl 13 (by decide) (ht _ k_fl_M_41) (fun _ h9 => h9) rfl d_M_plainEither_10 ?_
  refine lv_iload_n hx hb d_M_plainEither_13 rfl (lv_at hl 1 rfl) ?_
  refine lv_iconst (v := (nI 1)) hx hb d_M_plainEither_14 (by decide) ?_
  refine x_callv (va_runV (As := [.ref a.aO, .int (nI ja), .int (nI 1)]) (rest := []) ⟨hx, hb, hml, hown, ht⟩ (c_M_add l G A w4 a (⟨st.th, st.ex, st.va, st.co, st.sv, st.kn, st.kc, st.S, st.Kd, st.In, st.Hw, st.Fr, st.Gn, st.R, st.L, st.T, u5, st.B, st.W⟩ : MS) E6 10 a.aO u5 h8 (by decide) ja 1 (by omega) (by decide) (fun j hj => by rw [h_u5 j hj]; exact (by decide : 0 < 97)) (hS6 ja ga)) (cwV 3 ht (TW_V k_ml_M_90 k_im_M_add k_se_M_add k_in_M k_code_M_add) rfl rfl rfl hv_M_add ⟨Nat.le_of_ble_eq_true rfl, Nat.le_of_ble_eq_true rfl⟩) ⟨x_blind, va_recv hK hP rfl h7, x_pre hE hA hS hP hD⟩ rfl rfl hl.1 rfl (lv_room (Nat.le_of_ble_eq_true rfl)) d_M_plainEither_15 ⟨Nat.le_of_ble_eq_true rfl, Nat.le_of_ble_eq_true rfl⟩) hS (fun w10 H locs q9 hP hD hS => ?_)
  have q9 : w10 = w4.set 10 (a.aO, aI G 60 (rI (ovb 60 0 u5 (fun j => (u5 j + 1 * st.S (60 * ja + j)) % 97)))) := q9
  obtain ⟨u11, e_u11⟩ : ∃ zz : Nat → Nat, zz = ovb 60 0 u5 (fun j => (u5 j + 1 * st.S (60 * ja + j)) % 97) := ⟨_, rfl⟩
  rw [← e_u11] at q9
  have h_u11 : ∀ j, j < 60 → u11 j = sE E ja j := fun j hj => by rw [e_u11, ovb_at hj]; show (u5 j + 1 * st.S (60 * ja + j)) % 97 = sE E ja j; rw [h_u5 j hj, hS9 ja j ga hj]; have := hS8 ja j ga hj; show (0 + 1 * sE E ja j) % 97 = _; omega
  have E12 : w10 = mW G a (⟨st.th, st.ex, st.va, st.co, st.sv, st.kn, st.kc, st.S, st.Kd, st.In, st.Hw, st.Fr, st.Gn, st.R, st.L, st.T, u11, st.B, st.W⟩ : MS) := by rw [q9, E6]; rfl
  have h13 : w10[0]? = some (a.m, .inr (5, [.int (nI st.th), .ref a.aS, .ref a.aK, .ref a.aI, .int (nI st.ex), .ref a.aH, .ref a.aF, .ref a.aG, .int (nI st.va), .ref a.aR, .int (nI st.co), .ref a.aL, .ref a.aT, .ref a.aO, .ref a.aB, .ref a.aW, .int (nI st.sv), .int (nI st.kn), .int (nI st.kc)])) := by rw [E12]; rfl
  have h14 : w10[10]? = some (a.aO, aI G 60 (rI u11)) := by rw [E12]; rfl
  refine lv_aload_n hx hb d_M_plainEither_18 rfl (lv_at hl 0 rfl) ?_
  refine lv_aload_n hx hb d_M_plainEither_19 rfl (lv_at hl 0 rfl) ?_
  refine va_get (D := xD G) (ci := 5) (C := R_M) (T := F_M) (N := 19) hx hb ht in_M hown hK hP 0 h13 rfl 13 (by decide) (ht _ k_fl_M_41) (fun _ h9 => h9) rfl d_M_plainEither_20 ?_
  refine lv_iload_n hx hb d_M_plainEither_23 rfl (lv_at hl 2 rfl) ?_
  refine lv_bipush (v := (nI 96)) hx hb d_M_plainEither_24 (by decide) ?_
  refine x_callv (va_runV (As := [.ref a.aO, .int (nI jb), .int (nI 96)]) (rest := []) ⟨hx, hb, hml, hown, ht⟩ (c_M_add l G A w10 a (⟨st.th, st.ex, st.va, st.co, st.sv, st.kn, st.kc, st.S, st.Kd, st.In, st.Hw, st.Fr, st.Gn, st.R, st.L, st.T, u11, st.B, st.W⟩ : MS) E12 10 a.aO u11 h14 (by decide) jb 96 (by omega) (by decide) (fun j hj => by rw [h_u11 j hj]; exact hS8 ja j ga hj) (hS6 jb gb)) (cwV 3 ht (TW_V k_ml_M_90 k_im_M_add k_se_M_add k_in_M k_code_M_add) rfl rfl rfl hv_M_add ⟨Nat.le_of_ble_eq_true rfl, Nat.le_of_ble_eq_true rfl⟩) ⟨x_blind, va_recv hK hP rfl h13, x_pre hE hA hS hP hD⟩ rfl rfl hl.1 rfl (lv_room (Nat.le_of_ble_eq_true rfl)) d_M_plainEither_26 ⟨Nat.le_of_ble_eq_true rfl, Nat.le_of_ble_eq_true rfl⟩) hS (fun w16 H locs q15 hP hD hS => ?_)
  have q15 : w16 = w10.set 10 (a.aO, aI G 60 (rI (ovb 60 0 u11 (fun j => (u11 j + 96 * st.S (60 * jb + j)) % 97)))) := q15
  obtain ⟨u17, e_u17⟩ : ∃ zz : Nat → Nat, zz = ovb 60 0 u11 (fun j => (u11 j + 96 * st.S (60 * jb + j)) % 97) := ⟨_, rfl⟩
  rw [← e_u17] at q15
  have h_u17 : ∀ j, j < 60 → u17 j = cmb 1 (sE E ja) 96 (sE E jb) j := fun j hj => by rw [e_u17, ovb_at hj]; show (u11 j + 96 * st.S (60 * jb + j)) % 97 = (1 * sE E ja j + 96 * sE E jb j) % 97; rw [h_u11 j hj, hS9 jb j gb hj, Nat.one_mul]
  have E18 : w16 = mW G a (⟨st.th, st.ex, st.va, st.co, st.sv, st.kn, st.kc, st.S, st.Kd, st.In, st.Hw, st.Fr, st.Gn, st.R, st.L, st.T, u17, st.B, st.W⟩ : MS) := by rw [q15, E12]; rfl
  have h19 : w16[0]? = some (a.m, .inr (5, [.int (nI st.th), .ref a.aS, .ref a.aK, .ref a.aI, .int (nI st.ex), .ref a.aH, .ref a.aF, .ref a.aG, .int (nI st.va), .ref a.aR, .int (nI st.co), .ref a.aL, .ref a.aT, .ref a.aO, .ref a.aB, .ref a.aW, .int (nI st.sv), .int (nI st.kn), .int (nI st.kc)])) := by rw [E18]; rfl
  have h20 : w16[10]? = some (a.aO, aI G 60 (rI u17)) := by rw [E18]; rfl
  have kk := cp_K (f := fun j => st.S (60 * jc + j)) (g := u17) (f2 := sE E jc) (g2 := cmb 1 (sE E ja) 96 (sE E jb)) (fun j hj => hS9 jc j gc hj) h_u17
  have k01 := cp_01 (sE E jc) (cmb 1 (sE E ja) 96 (sE E jb))
  refine lv_aload_n hx hb d_M_plainEither_29 rfl (lv_at hl 0 rfl) ?_
  refine lv_iload_n hx hb d_M_plainEither_30 rfl (lv_at hl 3 rfl) ?_
  refine x_calli (va_runV (As := [.int (nI jc)]) (rest := []) ⟨hx, hb, hml, hown, ht⟩ (c_M_isConst l G A w16 a (⟨st.th, st.ex, st.va, st.co, st.sv, st.kn, st.kc, st.S, st.Kd, st.In, st.Hw, st.Fr, st.Gn, st.R, st.L, st.T, u17, st.B, st.W⟩ : MS) E18 jc (by omega) (hS6 jc gc)) (cwV 1 ht (TW_V k_ml_M_94 k_im_M_isConstant k_se_M_isConstant k_in_M k_code_M_isConstant) rfl rfl rfl hv_M_isConstant ⟨Nat.le_of_ble_eq_true rfl, Nat.le_of_ble_eq_true rfl⟩) ⟨x_blind, va_recv hK hP rfl h19, x_pre hE hA hS hP hD⟩ rfl rfl hl.1 rfl (lv_room (Nat.le_of_ble_eq_true rfl)) d_M_plainEither_31 ⟨Nat.le_of_ble_eq_true rfl, Nat.le_of_ble_eq_true rfl⟩) hS (fun r23 w22 H locs q21 hP hD hS => ?_)
  obtain ⟨rfl, ⟨rfl, k1⟩ | ⟨rfl, k1⟩⟩ := q21
  · refine x_if_ne hx hb 1 rfl (by decide) (tgt := 47) d_M_plainEither_34 (by decide) (fun c24 => ?_) (fun c24 => ?_)
    rotate_left
    · exact False.elim (by omega)
    refine lv_iconst (v := (nI 1)) hx hb d_M_plainEither_47 (by decide) ?_
    refine lv_goto (tgt := 52) hx hb d_M_plainEither_48 (by decide) ?_
    exact x_zret hx hb hr hlocks hS hP hD (Nat.le_of_ble_eq_true rfl) (Nat.le_of_ble_eq_true rfl) d_M_plainEither_52 rfl (⟨u17, E18, Or.inl ⟨rfl, kk.mp (Or.inl k1)⟩⟩)
  · refine x_if_ne hx hb 0 rfl (by decide) (tgt := 47) d_M_plainEither_34 (by decide) (fun c25 => ?_) (fun c25 => ?_)
    · exact False.elim (by omega)
    refine lv_aload_n hx hb d_M_plainEither_37 rfl (lv_at hl 0 rfl) ?_
    refine va_get (D := xD G) (ci := 5) (C := R_M) (T := F_M) (N := 19) hx hb ht in_M hown hK hP 0 h19 rfl 13 (by decide) (ht _ k_fl_M_41) (fun _ h9 => h9) rfl d_M_plainEither_38 ?_
    refine x_calli (va_runS (As := [.ref a.aO]) (rest := []) ⟨hx, hb, hml, hown, ht⟩ (c_M_constant l G A w16 10 a.aO u17 h20 (fun j hj => by rw [h_u17 j hj]; exact cmb_lt j)) (va_cwS 1 ht (TW_S k_ml_M_68 k_st_M_constant k_in_M k_code_M_constant) rfl rfl rfl hv_M_constant.2 ⟨Nat.le_of_ble_eq_true rfl, Nat.le_of_ble_eq_true rfl⟩) ⟨x_blind, x_pre hE hA hS hP hD⟩ rfl rfl hl.1 rfl (lv_room (Nat.le_of_ble_eq_true rfl)) d_M_plainEither_41 ⟨Nat.le_of_ble_eq_true rfl, Nat.le_of_ble_eq_true rfl⟩) hS (fun r28 w27 H locs q26 hP hD hS => ?_)
    obtain ⟨rfl, ⟨rfl, k29⟩ | ⟨rfl, k29⟩⟩ := q26
    · refine x_if_eq hx hb 1 rfl (by decide) (tgt := 51) d_M_plainEither_44 (by decide) (fun c30 => ?_) (fun c30 => ?_)
      · exact False.elim (by omega)
      refine lv_iconst (v := (nI 1)) hx hb d_M_plainEither_47 (by decide) ?_
      refine lv_goto (tgt := 52) hx hb d_M_plainEither_48 (by decide) ?_
      exact x_zret hx hb hr hlocks hS hP hD (Nat.le_of_ble_eq_true rfl) (Nat.le_of_ble_eq_true rfl) d_M_plainEither_52 rfl (⟨u17, E18, Or.inl ⟨rfl, kk.mp (Or.inr k29)⟩⟩)
    · refine x_if_eq hx hb 0 rfl (by decide) (tgt := 51) d_M_plainEither_44 (by decide) (fun c31 => ?_) (fun c31 => ?_)
      rotate_left
      · exact False.elim (by omega)
      refine lv_iconst (v := (nI 0)) hx hb d_M_plainEither_51 (by decide) ?_
      exact x_zret hx hb hr hlocks hS hP hD (Nat.le_of_ble_eq_true rfl) (Nat.le_of_ble_eq_true rfl) d_M_plainEither_52 rfl (⟨u17, E18, Or.inr ⟨rfl, k01.resolve_left (fun q => (kk.mpr q).elim k1 k29)⟩⟩)

set_option maxHeartbeats 4000000 in
set_option maxRecDepth 100000 in
theorem c_M_needs (l : Launch) (G : xG) (A : Nat → Prop) (ws : va_W) (a : MA) (st : MS) (hw : ws = mW G a st) (V : List VV) (E : List EE) (K : List KK) (inp : Nat) (w : Nat → Nat) (wV wC : Nat) (hM : MRel st V E K inp w wV wC) (bE : E.length ≤ 60) (kd : Nat) (x1 x2 x3 : Int32) (hf : wfd kd E.length x1 x2 x3) : Met l y_M_needs (cw_M_needs :: TW) { frames := 4, cells := 0, slots := 0, locals := 104 } (va_Pc [.ref a.m, .int (nI kd), .int x1, .int x2, .int x3] (x_P G A ws)) (qI G A (fun r w9 => r = nI (if kd = 1 then 1 else nd kd E x1 x2 x3) ∧ ∃ O9 : Nat → Nat, w9 = mW G a (⟨st.th, st.ex, st.va, st.co, st.sv, st.kn, st.kc, st.S, st.Kd, st.In, st.Hw, st.Fr, st.Gn, st.R, st.L, st.T, O9, st.B, st.W⟩ : MS))) 0 0 A := by
  refine Met.ofW (cc := b_M_needs) (maxL := 5) (ret := (some .int)) (by decide) rfl ?_
  intro p e s m args below meth c s₁ B hml hv
  obtain ⟨rfl, hE, hA, hP, hD⟩ := hv
  have hx := B.exec
  have hb := B.bytes
  have hr := B.returns
  have ht : ∀ w ∈ TW, w.before _ s = true := fun w h => atoms_spec (ws := cw_M_needs :: TW) B.pre w (List.mem_cons_of_mem _ h)
  have hown : s.vm.findClass R_M = some m.cls := findClass_of_methodNamed B.named
  have hlocks := B.notSynchronized
  have hK := hE.1
  have hS : va_S A s.heap s.heap [] := va_S.rf
  have hl := lv_entry ([.ref a.m, .int (nI kd), .int x1, .int x2, .int x3]) (n := 5) (Nat.le_of_ble_eq_true rfl)
  rw [lg_entry_eq]
  generalize (lg_sl ([.ref a.m, .int (nI kd), .int x1, .int x2, .int x3]) ++ List.replicate (5 - (lg_sl ([.ref a.m, .int (nI kd), .int x1, .int x2, .int x3])).length) Slot.unset).toArray = ls at hl ⊢
  have hl : lv_has ls 5 [(0, .ref a.m), (1, .int (nI kd)), (2, .int x1), (3, .int x2), (4, .int x3)] := hl
  have hco := hM.1.1
  have hva := hM.2.1.1
  have hex := hM.2.2.1.1
  have hS9 : ∀ e9 j, e9 < E.length → j < 60 → st.S (60 * e9 + j) = sE E e9 j := fun e9 j h1 h2 => (hM.2.2.1.2.1 e9 j h1 h2).1
  have hS8 : ∀ e9 j, e9 < E.length → j < 60 → sE E e9 j < 97 := fun e9 j h1 h2 => (hM.2.2.1.2.1 e9 j h1 h2).2.1
  have hS6 : ∀ e9, e9 < E.length → ∀ j, j < 60 → st.S (60 * e9 + j) < 97 := fun e9 h1 j h2 => by rw [hS9 e9 j h1 h2]; exact hS8 e9 j h1 h2
  have hS7 : ∀ e9 j, e9 < E.length → V.length ≤ j → j < 60 → sE E e9 j = 0 := fun e9 j h1 h3 h2 => (hM.2.2.1.2.1 e9 j h1 h2).2.2 h3
  have h1 : ws[0]? = some (a.m, .inr (5, [.int (nI st.th), .ref a.aS, .ref a.aK, .ref a.aI, .int (nI st.ex), .ref a.aH, .ref a.aF, .ref a.aG, .int (nI st.va), .ref a.aR, .int (nI st.co), .ref a.aL, .ref a.aT, .ref a.aO, .ref a.aB, .ref a.aW, .int (nI st.sv), .int (nI st.kn), .int (nI st.kc)])) := by rw [hw]; rfl
  obtain ⟨w1, w2, w3, w4, w5⟩ := hf
  have hk9 : kd = 0 ∨ kd = 1 ∨ kd = 2 ∨ kd = 3 ∨ kd = 4 ∨ kd = 5 ∨ kd = 6 ∨ kd = 7 ∨ kd = 8 ∨ kd = 9 := by omega
  rcases hk9 with rfl | rfl | rfl | rfl | rfl | rfl | rfl | rfl | rfl | rfl
  · refine lv_iload_n hx hb d_M_needs_0 rfl (lv_at hl 1 rfl) ?_
    refine lv_tableOut (tgt := 111) hx hb d_M_needs_1 (by decide) (by decide) ?_
    refine lv_iconst (v := (nI 0)) hx hb d_M_needs_111 (by decide) ?_
    exact x_iret hx hb hr hlocks hS hP hD (Nat.le_of_ble_eq_true rfl) (Nat.le_of_ble_eq_true rfl) d_M_needs_112 (⟨rfl, st.O, hw⟩)
  · refine lv_iload_n hx hb d_M_needs_0 rfl (lv_at hl 1 rfl) ?_
    refine lv_tableIn (off := 51) (tgt := 52) hx hb d_M_needs_1 (by decide) (by decide) (by decide) (by decide) ?_
    refine lv_iconst (v := (nI 1)) hx hb d_M_needs_52 (by decide) ?_
    exact x_iret hx hb hr hlocks hS hP hD (Nat.le_of_ble_eq_true rfl) (Nat.le_of_ble_eq_true rfl) d_M_needs_53 (⟨rfl, st.O, hw⟩)
  · refine lv_iload_n hx hb d_M_needs_0 rfl (lv_at hl 1 rfl) ?_
    refine lv_tableIn (off := 110) (tgt := 111) hx hb d_M_needs_1 (by decide) (by decide) (by decide) (by decide) ?_
    refine lv_iconst (v := (nI 0)) hx hb d_M_needs_111 (by decide) ?_
    exact x_iret hx hb hr hlocks hS hP hD (Nat.le_of_ble_eq_true rfl) (Nat.le_of_ble_eq_true rfl) d_M_needs_112 (⟨rfl, st.O, hw⟩)
  · refine lv_iload_n hx hb d_M_needs_0 rfl (lv_at hl 1 rfl) ?_
    refine lv_tableIn (off := 110) (tgt := 111) hx hb d_M_needs_1 (by decide) (by decide) (by decide) (by decide) ?_
    refine lv_iconst (v := (nI 0)) hx hb d_M_needs_111 (by decide) ?_
    exact x_iret hx hb hr hlocks hS hP hD (Nat.le_of_ble_eq_true rfl) (Nat.le_of_ble_eq_true rfl) d_M_needs_112 (⟨rfl, st.O, hw⟩)
  · refine lv_iload_n hx hb d_M_needs_0 rfl (lv_at hl 1 rfl) ?_
    refine lv_tableIn (off := 53) (tgt := 54) hx hb d_M_needs_1 (by decide) (by decide) (by decide) (by decide) ?_
    obtain ⟨ja, gja, rfl⟩ := w2 (by decide)
    obtain ⟨jb, gjb, rfl⟩ := w3 (by decide) (by decide)
    have kk := cp_K (f := fun j => st.S (60 * ja + j)) (g := fun j => st.S (60 * jb + j)) (fun j hj => hS9 ja j gja hj) (fun j hj => hS9 jb j gjb hj)
    have k01 := cp_01 (sE E ja) (sE E jb)
    refine lv_aload_n hx hb d_M_needs_54 rfl (lv_at hl 0 rfl) ?_
    refine lv_iload_n hx hb d_M_needs_55 rfl (lv_at hl 2 rfl) ?_
    refine x_calli (va_runV (As := [.int (nI ja)]) (rest := []) ⟨hx, hb, hml, hown, ht⟩ (c_M_isConst l G A ws a st hw ja (by omega) (hS6 ja gja)) (cwV 1 ht (TW_V k_ml_M_94 k_im_M_isConstant k_se_M_isConstant k_in_M k_code_M_isConstant) rfl rfl rfl hv_M_isConstant ⟨Nat.le_of_ble_eq_true rfl, Nat.le_of_ble_eq_true rfl⟩) ⟨x_blind, va_recv hK hP rfl h1, x_pre hE hA hS hP hD⟩ rfl rfl hl.1 rfl (lv_room (Nat.le_of_ble_eq_true rfl)) d_M_needs_56 ⟨Nat.le_of_ble_eq_true rfl, Nat.le_of_ble_eq_true rfl⟩) hS (fun r4 w3 H locs q2 hP hD hS => ?_)
    obtain ⟨rfl, ⟨rfl, k5⟩ | ⟨rfl, k5⟩⟩ := q2
    · refine x_if_ne hx hb 1 rfl (by decide) (tgt := 70) d_M_needs_59 (by decide) (fun c6 => ?_) (fun c6 => ?_)
      rotate_left
      · exact False.elim (by omega)
      refine lv_iconst (v := (nI 0)) hx hb d_M_needs_70 (by decide) ?_
      refine lv_goto (tgt := 75) hx hb d_M_needs_71 (by decide) ?_
      have e7 := kk.mp (Or.inl k5)
      exact x_iret hx hb hr hlocks hS hP hD (Nat.le_of_ble_eq_true rfl) (Nat.le_of_ble_eq_true rfl) d_M_needs_75 (⟨by simp [nd, e7, ix_nI (show ja < 2 ^ 31 by omega), ix_nI (show jb < 2 ^ 31 by omega)], st.O, hw⟩)
    · refine x_if_ne hx hb 0 rfl (by decide) (tgt := 70) d_M_needs_59 (by decide) (fun c7 => ?_) (fun c7 => ?_)
      · exact False.elim (by omega)
      refine lv_aload_n hx hb d_M_needs_62 rfl (lv_at hl 0 rfl) ?_
      refine lv_iload_n hx hb d_M_needs_63 rfl (lv_at hl 3 rfl) ?_
      refine x_calli (va_runV (As := [.int (nI jb)]) (rest := []) ⟨hx, hb, hml, hown, ht⟩ (c_M_isConst l G A ws a st hw jb (by omega) (hS6 jb gjb)) (cwV 1 ht (TW_V k_ml_M_94 k_im_M_isConstant k_se_M_isConstant k_in_M k_code_M_isConstant) rfl rfl rfl hv_M_isConstant ⟨Nat.le_of_ble_eq_true rfl, Nat.le_of_ble_eq_true rfl⟩) ⟨x_blind, va_recv hK hP rfl h1, x_pre hE hA hS hP hD⟩ rfl rfl hl.1 rfl (lv_room (Nat.le_of_ble_eq_true rfl)) d_M_needs_64 ⟨Nat.le_of_ble_eq_true rfl, Nat.le_of_ble_eq_true rfl⟩) hS (fun r10 w9 H locs q8 hP hD hS => ?_)
      obtain ⟨rfl, ⟨rfl, k11⟩ | ⟨rfl, k11⟩⟩ := q8
      · refine x_if_eq hx hb 1 rfl (by decide) (tgt := 74) d_M_needs_67 (by decide) (fun c12 => ?_) (fun c12 => ?_)
        · exact False.elim (by omega)
        refine lv_iconst (v := (nI 0)) hx hb d_M_needs_70 (by decide) ?_
        refine lv_goto (tgt := 75) hx hb d_M_needs_71 (by decide) ?_
        have e7 := kk.mp (Or.inr k11)
        exact x_iret hx hb hr hlocks hS hP hD (Nat.le_of_ble_eq_true rfl) (Nat.le_of_ble_eq_true rfl) d_M_needs_75 (⟨by simp [nd, e7, ix_nI (show ja < 2 ^ 31 by omega), ix_nI (show jb < 2 ^ 31 by omega)], st.O, hw⟩)
      · refine x_if_eq hx hb 0 rfl (by decide) (tgt := 74) d_M_needs_67 (by decide) (fun c13 => ?_) (fun c13 => ?_)
        rotate_left
        · exact False.elim (by omega)
        refine lv_iconst (v := (nI 1)) hx hb d_M_needs_74 (by decide) ?_
        have e7 := k01.resolve_left (fun q => (kk.mpr q).elim k5 k11)
        exact x_iret hx hb hr hlocks hS hP hD (Nat.le_of_ble_eq_true rfl) (Nat.le_of_ble_eq_true rfl) d_M_needs_75 (⟨by simp [nd, e7, ix_nI (show ja < 2 ^ 31 by omega), ix_nI (show jb < 2 ^ 31 by omega)], st.O, hw⟩)
  · refine lv_iload_n hx hb d_M_needs_0 rfl (lv_at hl 1 rfl) ?_
    refine lv_tableIn (off := 75) (tgt := 76) hx hb d_M_needs_1 (by decide) (by decide) (by decide) (by decide) ?_
    refine lv_iconst (v := (nI 2)) hx hb d_M_needs_76 (by decide) ?_
    exact x_iret hx hb hr hlocks hS hP hD (Nat.le_of_ble_eq_true rfl) (Nat.le_of_ble_eq_true rfl) d_M_needs_77 (⟨rfl, st.O, hw⟩)
  · refine lv_iload_n hx hb d_M_needs_0 rfl (lv_at hl 1 rfl) ?_
    refine lv_tableIn (off := 75) (tgt := 76) hx hb d_M_needs_1 (by decide) (by decide) (by decide) (by decide) ?_
    refine lv_iconst (v := (nI 2)) hx hb d_M_needs_76 (by decide) ?_
    exact x_iret hx hb hr hlocks hS hP hD (Nat.le_of_ble_eq_true rfl) (Nat.le_of_ble_eq_true rfl) d_M_needs_77 (⟨rfl, st.O, hw⟩)
  · refine lv_iload_n hx hb d_M_needs_0 rfl (lv_at hl 1 rfl) ?_
    refine lv_tableIn (off := 77) (tgt := 78) hx hb d_M_needs_1 (by decide) (by decide) (by decide) (by decide) ?_
    obtain ⟨ja, gja, rfl⟩ := w2 (by decide)
    obtain ⟨jb, gjb, rfl⟩ := w3 (by decide) (by decide)
    obtain ⟨jc, gjc, rfl⟩ := w4 rfl
    refine lv_aload_n hx hb d_M_needs_78 rfl (lv_at hl 0 rfl) ?_
    refine lv_iload_n hx hb d_M_needs_79 rfl (lv_at hl 2 rfl) ?_
    refine lv_iload_n hx hb d_M_needs_80 rfl (lv_at hl 3 rfl) ?_
    refine lv_iload hx hb d_M_needs_81 (lv_at hl 4 rfl) ?_
    refine x_calli (va_runV (As := [.int (nI ja), .int (nI jb), .int (nI jc)]) (rest := []) ⟨hx, hb, hml, hown, ht⟩ (c_M_plain l G A ws a st hw V E K inp w wV wC hM ja jb jc gja gjb gjc bE) (cwV 3 ht (TW_V k_ml_M_97 k_im_M_plainEither k_se_M_plainEither k_in_M k_code_M_plainEither) rfl rfl rfl hv_M_plainEither ⟨Nat.le_of_ble_eq_true rfl, Nat.le_of_ble_eq_true rfl⟩) ⟨x_blind, va_recv hK hP rfl h1, x_pre hE hA hS hP hD⟩ rfl rfl hl.1 rfl (lv_room (Nat.le_of_ble_eq_true rfl)) d_M_needs_83 ⟨Nat.le_of_ble_eq_true rfl, Nat.le_of_ble_eq_true rfl⟩) hS (fun r16 w15 H locs q14 hP hD hS => ?_)
    obtain ⟨O9, E9, ⟨rfl, e7⟩ | ⟨rfl, e7⟩⟩ := q14
    · refine x_if_eq hx hb 1 rfl (by decide) (tgt := 93) d_M_needs_86 (by decide) (fun c17 => ?_) (fun c17 => ?_)
      · exact False.elim (by omega)
      refine lv_iconst (v := (nI 0)) hx hb d_M_needs_89 (by decide) ?_
      refine lv_goto (tgt := 94) hx hb d_M_needs_90 (by decide) ?_
      exact x_iret hx hb hr hlocks hS hP hD (Nat.le_of_ble_eq_true rfl) (Nat.le_of_ble_eq_true rfl) d_M_needs_94 (⟨by simp [nd, e7, ix_nI (show ja < 2 ^ 31 by omega), ix_nI (show jb < 2 ^ 31 by omega), ix_nI (show jc < 2 ^ 31 by omega)], O9, E9⟩)
    · refine x_if_eq hx hb 0 rfl (by decide) (tgt := 93) d_M_needs_86 (by decide) (fun c18 => ?_) (fun c18 => ?_)
      rotate_left
      · exact False.elim (by omega)
      refine lv_iconst (v := (nI 1)) hx hb d_M_needs_93 (by decide) ?_
      exact x_iret hx hb hr hlocks hS hP hD (Nat.le_of_ble_eq_true rfl) (Nat.le_of_ble_eq_true rfl) d_M_needs_94 (⟨by simp [nd, e7, ix_nI (show ja < 2 ^ 31 by omega), ix_nI (show jb < 2 ^ 31 by omega), ix_nI (show jc < 2 ^ 31 by omega)], O9, E9⟩)
  · refine lv_iload_n hx hb d_M_needs_0 rfl (lv_at hl 1 rfl) ?_
    refine lv_tableIn (off := 110) (tgt := 111) hx hb d_M_needs_1 (by decide) (by decide) (by decide) (by decide) ?_
    refine lv_iconst (v := (nI 0)) hx hb d_M_needs_111 (by decide) ?_
    exact x_iret hx hb hr hlocks hS hP hD (Nat.le_of_ble_eq_true rfl) (Nat.le_of_ble_eq_true rfl) d_M_needs_112 (⟨rfl, st.O, hw⟩)
  · refine lv_iload_n hx hb d_M_needs_0 rfl (lv_at hl 1 rfl) ?_
    refine lv_tableIn (off := 94) (tgt := 95) hx hb d_M_needs_1 (by decide) (by decide) (by decide) (by decide) ?_
    obtain ⟨ja, gja, rfl⟩ := w2 (by decide)
    obtain ⟨b, hb1, hb5, rfl⟩ := w5 rfl
    have kk := cp_K (f := fun j => st.S (60 * ja + j)) (g := fun j => st.S (60 * ja + j)) (fun j hj => hS9 ja j gja hj) (fun j hj => hS9 ja j gja hj)
    have k01 := cp_01 (sE E ja) (sE E ja)
    refine lv_aload_n hx hb d_M_needs_95 rfl (lv_at hl 0 rfl) ?_
    refine lv_iload_n hx hb d_M_needs_96 rfl (lv_at hl 2 rfl) ?_
    refine x_calli (va_runV (As := [.int (nI ja)]) (rest := []) ⟨hx, hb, hml, hown, ht⟩ (c_M_isConst l G A ws a st hw ja (by omega) (hS6 ja gja)) (cwV 1 ht (TW_V k_ml_M_94 k_im_M_isConstant k_se_M_isConstant k_in_M k_code_M_isConstant) rfl rfl rfl hv_M_isConstant ⟨Nat.le_of_ble_eq_true rfl, Nat.le_of_ble_eq_true rfl⟩) ⟨x_blind, va_recv hK hP rfl h1, x_pre hE hA hS hP hD⟩ rfl rfl hl.1 rfl (lv_room (Nat.le_of_ble_eq_true rfl)) d_M_needs_97 ⟨Nat.le_of_ble_eq_true rfl, Nat.le_of_ble_eq_true rfl⟩) hS (fun r21 w20 H locs q19 hP hD hS => ?_)
    obtain ⟨rfl, ⟨rfl, k22⟩ | ⟨rfl, k22⟩⟩ := q19
    · refine x_if_eq hx hb 1 rfl (by decide) (tgt := 107) d_M_needs_100 (by decide) (fun c23 => ?_) (fun c23 => ?_)
      · exact False.elim (by omega)
      refine lv_iconst (v := (nI 0)) hx hb d_M_needs_103 (by decide) ?_
      refine lv_goto (tgt := 110) hx hb d_M_needs_104 (by decide) ?_
      have e7 := kk.mp (Or.inl k22)
      exact x_iret hx hb hr hlocks hS hP hD (Nat.le_of_ble_eq_true rfl) (Nat.le_of_ble_eq_true rfl) d_M_needs_110 (⟨by simp [nd, e7, ix_nI (show ja < 2 ^ 31 by omega), ix_nI (show b < 2 ^ 31 by omega)], st.O, hw⟩)
    · refine x_if_eq hx hb 0 rfl (by decide) (tgt := 107) d_M_needs_100 (by decide) (fun c24 => ?_) (fun c24 => ?_)
      rotate_left
      · exact False.elim (by omega)
      refine lv_iload_n hx hb d_M_needs_107 rfl (lv_at hl 3 rfl) ?_
      refine lv_iconst (v := (nI 1)) hx hb d_M_needs_108 (by decide) ?_
      refine lv_isub hx hb d_M_needs_109 ?_
      refine x_top (nI (b - 1)) (pk_sub (by omega)) ?_
      have e7 := k01.resolve_left (fun q => (kk.mpr q).elim k22 k22)
      exact x_iret hx hb hr hlocks hS hP hD (Nat.le_of_ble_eq_true rfl) (Nat.le_of_ble_eq_true rfl) d_M_needs_110 (⟨by simp [nd, e7, ix_nI (show ja < 2 ^ 31 by omega), ix_nI (show b < 2 ^ 31 by omega)], st.O, hw⟩)

set_option maxHeartbeats 4000000 in
set_option maxRecDepth 100000 in
theorem c_M_fits (l : Launch) (G : xG) (A : Nat → Prop) (ws : va_W) (a : MA) (st : MS) (hw : ws = mW G a st) (bE : st.ex ≤ 60) (x0 x1 x2 x3 : Int32) : Met l y_M_fits (cw_M_fits :: TW) { frames := 3, cells := 0, slots := 0, locals := 78 } (va_Pc [.ref a.m, .int x0, .int x1, .int x2, .int x3] (x_P G A ws)) (qI G A (fun r w9 => ws = w9 ∧ ((r = nI 1 ∧ wfx st.ex x0 x1 x2 x3) ∨ (r = nI 0 ∧ ¬ wfx st.ex x0 x1 x2 x3)))) 0 0 A := by
  refine Met.ofW (cc := b_M_fits) (maxL := 5) (ret := (some .boolean)) (by decide) rfl ?_
  intro p e s m args below meth c s₁ B hml hv
  obtain ⟨rfl, hE, hA, hP, hD⟩ := hv
  have hx := B.exec
  have hb := B.bytes
  have hr := B.returns
  have ht : ∀ w ∈ TW, w.before _ s = true := fun w h => atoms_spec (ws := cw_M_fits :: TW) B.pre w (List.mem_cons_of_mem _ h)
  have hown : s.vm.findClass R_M = some m.cls := findClass_of_methodNamed B.named
  have hlocks := B.notSynchronized
  have hK := hE.1
  have hS : va_S A s.heap s.heap [] := va_S.rf
  have hl := lv_entry ([.ref a.m, .int x0, .int x1, .int x2, .int x3]) (n := 5) (Nat.le_of_ble_eq_true rfl)
  rw [lg_entry_eq]
  generalize (lg_sl ([.ref a.m, .int x0, .int x1, .int x2, .int x3]) ++ List.replicate (5 - (lg_sl ([.ref a.m, .int x0, .int x1, .int x2, .int x3])).length) Slot.unset).toArray = ls at hl ⊢
  have hl : lv_has ls 5 [(0, .ref a.m), (1, .int x0), (2, .int x1), (3, .int x2), (4, .int x3)] := hl
  have h1 : ws[0]? = some (a.m, .inr (5, [.int (nI st.th), .ref a.aS, .ref a.aK, .ref a.aI, .int (nI st.ex), .ref a.aH, .ref a.aF, .ref a.aG, .int (nI st.va), .ref a.aR, .int (nI st.co), .ref a.aL, .ref a.aT, .ref a.aO, .ref a.aB, .ref a.aW, .int (nI st.sv), .int (nI st.kn), .int (nI st.kc)])) := by rw [hw]; rfl
  refine lv_iload_n hx hb d_M_fits_0 rfl (lv_at hl 1 rfl) ?_
  refine lv_iconst (v := (nI 0)) hx hb d_M_fits_1 (by decide) ?_
  refine lv_bipush (v := (nI 9)) hx hb d_M_fits_2 (by decide) ?_
  refine x_calli (va_runS (As := [.int x0, .int (nI 0), .int (nI 9)]) (rest := []) ⟨hx, hb, hml, hown, ht⟩ (c_M_in l G A ws x0 (nI 0) (nI 9)) (va_cwS 3 ht (TW_S k_ml_M_56 k_st_M_in k_in_M k_code_M_in) rfl rfl rfl hv_M_in.2 ⟨Nat.le_of_ble_eq_true rfl, Nat.le_of_ble_eq_true rfl⟩) ⟨x_blind, x_pre hE hA hS hP hD⟩ rfl rfl hl.1 rfl (lv_room (Nat.le_of_ble_eq_true rfl)) d_M_fits_4 ⟨Nat.le_of_ble_eq_true rfl, Nat.le_of_ble_eq_true rfl⟩) hS (fun r4 w3 H locs q2 hP hD hS => ?_)
  obtain ⟨rfl, ⟨rfl, hm⟩ | ⟨rfl, hm⟩⟩ := q2
  · refine x_if_ne hx hb 1 rfl (by decide) (tgt := 12) d_M_fits_7 (by decide) (fun c5 => ?_) (fun c5 => ?_)
    rotate_left
    · exact False.elim (by omega)
    obtain ⟨kd, hk, rfl⟩ := (in_mdn (by decide)).mp hm
    have hk9 : kd = 0 ∨ kd = 1 ∨ kd = 2 ∨ kd = 3 ∨ kd = 4 ∨ kd = 5 ∨ kd = 6 ∨ kd = 7 ∨ kd = 8 ∨ kd = 9 := by omega
    rcases hk9 with rfl | rfl | rfl | rfl | rfl | rfl | rfl | rfl | rfl | rfl
    · refine lv_iload_n hx hb d_M_fits_12 rfl (lv_at hl 1 rfl) ?_
      refine lv_iconst (v := (nI 2)) hx hb d_M_fits_13 (by decide) ?_
      refine x_ge hx hb 0 2 rfl rfl (by decide) (by decide) (tgt := 19) d_M_fits_14 (by decide) (fun c6 => ?_) (fun c6 => ?_)
      · exact False.elim (by omega)
      refine lv_iconst (v := (nI 1)) hx hb d_M_fits_17 (by decide) ?_
      exact x_zret hx hb hr hlocks hS hP hD (Nat.le_of_ble_eq_true rfl) (Nat.le_of_ble_eq_true rfl) d_M_fits_18 rfl (⟨rfl, Or.inl ⟨rfl, (wfx_iff (by decide)).mpr ⟨by decide, fun q => absurd q (by decide), fun q => absurd q (by decide), fun q => absurd q (by decide), fun q => absurd q (by decide)⟩⟩⟩)
    · refine lv_iload_n hx hb d_M_fits_12 rfl (lv_at hl 1 rfl) ?_
      refine lv_iconst (v := (nI 2)) hx hb d_M_fits_13 (by decide) ?_
      refine x_ge hx hb 1 2 rfl rfl (by decide) (by decide) (tgt := 19) d_M_fits_14 (by decide) (fun c7 => ?_) (fun c7 => ?_)
      · exact False.elim (by omega)
      refine lv_iconst (v := (nI 1)) hx hb d_M_fits_17 (by decide) ?_
      exact x_zret hx hb hr hlocks hS hP hD (Nat.le_of_ble_eq_true rfl) (Nat.le_of_ble_eq_true rfl) d_M_fits_18 rfl (⟨rfl, Or.inl ⟨rfl, (wfx_iff (by decide)).mpr ⟨by decide, fun q => absurd q (by decide), fun q => absurd q (by decide), fun q => absurd q (by decide), fun q => absurd q (by decide)⟩⟩⟩)
    · refine lv_iload_n hx hb d_M_fits_12 rfl (lv_at hl 1 rfl) ?_
      refine lv_iconst (v := (nI 2)) hx hb d_M_fits_13 (by decide) ?_
      refine x_ge hx hb 2 2 rfl rfl (by decide) (by decide) (tgt := 19) d_M_fits_14 (by decide) (fun c8 => ?_) (fun c8 => ?_)
      rotate_left
      · exact False.elim (by omega)
      refine lv_aload_n hx hb d_M_fits_19 rfl (lv_at hl 0 rfl) ?_
      refine lv_iload_n hx hb d_M_fits_20 rfl (lv_at hl 2 rfl) ?_
      refine x_calli (va_runV (As := [.int x1]) (rest := []) ⟨hx, hb, hml, hown, ht⟩ (c_M_made l G A ws a st hw bE x1) (cwV 1 ht (TW_V k_ml_M_86 k_im_M_made k_se_M_made k_in_M k_code_M_made) rfl rfl rfl hv_M_made ⟨Nat.le_of_ble_eq_true rfl, Nat.le_of_ble_eq_true rfl⟩) ⟨x_blind, va_recv hK hP rfl h1, x_pre hE hA hS hP hD⟩ rfl rfl hl.1 rfl (lv_room (Nat.le_of_ble_eq_true rfl)) d_M_fits_21 ⟨Nat.le_of_ble_eq_true rfl, Nat.le_of_ble_eq_true rfl⟩) hS (fun r11 w10 H locs q9 hP hD hS => ?_)
      obtain ⟨rfl, ⟨rfl, m12⟩ | ⟨rfl, m12⟩⟩ := q9
      · refine x_if_eq hx hb 1 rfl (by decide) (tgt := 56) d_M_fits_24 (by decide) (fun c13 => ?_) (fun c13 => ?_)
        · exact False.elim (by omega)
        refine lv_iload_n hx hb d_M_fits_27 rfl (lv_at hl 1 rfl) ?_
        refine lv_bipush (v := (nI 8)) hx hb d_M_fits_28 (by decide) ?_
        refine x_ge hx hb 2 8 rfl rfl (by decide) (by decide) (tgt := 41) d_M_fits_30 (by decide) (fun c14 => ?_) (fun c14 => ?_)
        · exact False.elim (by omega)
        refine lv_aload_n hx hb d_M_fits_33 rfl (lv_at hl 0 rfl) ?_
        refine lv_iload_n hx hb d_M_fits_34 rfl (lv_at hl 3 rfl) ?_
        refine x_calli (va_runV (As := [.int x2]) (rest := []) ⟨hx, hb, hml, hown, ht⟩ (c_M_made l G A ws a st hw bE x2) (cwV 1 ht (TW_V k_ml_M_86 k_im_M_made k_se_M_made k_in_M k_code_M_made) rfl rfl rfl hv_M_made ⟨Nat.le_of_ble_eq_true rfl, Nat.le_of_ble_eq_true rfl⟩) ⟨x_blind, va_recv hK hP rfl h1, x_pre hE hA hS hP hD⟩ rfl rfl hl.1 rfl (lv_room (Nat.le_of_ble_eq_true rfl)) d_M_fits_35 ⟨Nat.le_of_ble_eq_true rfl, Nat.le_of_ble_eq_true rfl⟩) hS (fun r17 w16 H locs q15 hP hD hS => ?_)
        obtain ⟨rfl, ⟨rfl, m18⟩ | ⟨rfl, m18⟩⟩ := q15
        · refine x_if_eq hx hb 1 rfl (by decide) (tgt := 56) d_M_fits_38 (by decide) (fun c19 => ?_) (fun c19 => ?_)
          · exact False.elim (by omega)
          refine lv_iload_n hx hb d_M_fits_41 rfl (lv_at hl 1 rfl) ?_
          refine lv_bipush (v := (nI 7)) hx hb d_M_fits_42 (by decide) ?_
          refine x_ne hx hb 2 7 rfl rfl (by decide) (by decide) (tgt := 58) d_M_fits_44 (by decide) (fun c20 => ?_) (fun c20 => ?_)
          rotate_left
          · exact False.elim (by omega)
          refine lv_iload_n hx hb d_M_fits_58 rfl (lv_at hl 1 rfl) ?_
          refine lv_bipush (v := (nI 9)) hx hb d_M_fits_59 (by decide) ?_
          refine x_ne hx hb 2 9 rfl rfl (by decide) (by decide) (tgt := 73) d_M_fits_61 (by decide) (fun c21 => ?_) (fun c21 => ?_)
          rotate_left
          · exact False.elim (by omega)
          refine lv_iconst (v := (nI 1)) hx hb d_M_fits_73 (by decide) ?_
          refine lv_goto (tgt := 78) hx hb d_M_fits_74 (by decide) ?_
          exact x_zret hx hb hr hlocks hS hP hD (Nat.le_of_ble_eq_true rfl) (Nat.le_of_ble_eq_true rfl) d_M_fits_78 rfl (⟨rfl, Or.inl ⟨rfl, (wfx_iff (by decide)).mpr ⟨(by decide), fun _ => m12, fun _ _ => m18, fun q => absurd q (by decide), fun q => absurd q (by decide)⟩⟩⟩)
        · refine x_if_eq hx hb 0 rfl (by decide) (tgt := 56) d_M_fits_38 (by decide) (fun c22 => ?_) (fun c22 => ?_)
          rotate_left
          · exact False.elim (by omega)
          refine lv_iconst (v := (nI 0)) hx hb d_M_fits_56 (by decide) ?_
          exact x_zret hx hb hr hlocks hS hP hD (Nat.le_of_ble_eq_true rfl) (Nat.le_of_ble_eq_true rfl) d_M_fits_57 rfl (⟨rfl, Or.inr ⟨rfl, fun q => by rw [wfx_iff (by decide)] at q; exact m18 (q.2.2.1 (by decide) (by decide))⟩⟩)
      · refine x_if_eq hx hb 0 rfl (by decide) (tgt := 56) d_M_fits_24 (by decide) (fun c23 => ?_) (fun c23 => ?_)
        rotate_left
        · exact False.elim (by omega)
        refine lv_iconst (v := (nI 0)) hx hb d_M_fits_56 (by decide) ?_
        exact x_zret hx hb hr hlocks hS hP hD (Nat.le_of_ble_eq_true rfl) (Nat.le_of_ble_eq_true rfl) d_M_fits_57 rfl (⟨rfl, Or.inr ⟨rfl, fun q => by rw [wfx_iff (by decide)] at q; exact m12 (q.2.1 (by decide))⟩⟩)
    · refine lv_iload_n hx hb d_M_fits_12 rfl (lv_at hl 1 rfl) ?_
      refine lv_iconst (v := (nI 2)) hx hb d_M_fits_13 (by decide) ?_
      refine x_ge hx hb 3 2 rfl rfl (by decide) (by decide) (tgt := 19) d_M_fits_14 (by decide) (fun c24 => ?_) (fun c24 => ?_)
      rotate_left
      · exact False.elim (by omega)
      refine lv_aload_n hx hb d_M_fits_19 rfl (lv_at hl 0 rfl) ?_
      refine lv_iload_n hx hb d_M_fits_20 rfl (lv_at hl 2 rfl) ?_
      refine x_calli (va_runV (As := [.int x1]) (rest := []) ⟨hx, hb, hml, hown, ht⟩ (c_M_made l G A ws a st hw bE x1) (cwV 1 ht (TW_V k_ml_M_86 k_im_M_made k_se_M_made k_in_M k_code_M_made) rfl rfl rfl hv_M_made ⟨Nat.le_of_ble_eq_true rfl, Nat.le_of_ble_eq_true rfl⟩) ⟨x_blind, va_recv hK hP rfl h1, x_pre hE hA hS hP hD⟩ rfl rfl hl.1 rfl (lv_room (Nat.le_of_ble_eq_true rfl)) d_M_fits_21 ⟨Nat.le_of_ble_eq_true rfl, Nat.le_of_ble_eq_true rfl⟩) hS (fun r27 w26 H locs q25 hP hD hS => ?_)
      obtain ⟨rfl, ⟨rfl, m28⟩ | ⟨rfl, m28⟩⟩ := q25
      · refine x_if_eq hx hb 1 rfl (by decide) (tgt := 56) d_M_fits_24 (by decide) (fun c29 => ?_) (fun c29 => ?_)
        · exact False.elim (by omega)
        refine lv_iload_n hx hb d_M_fits_27 rfl (lv_at hl 1 rfl) ?_
        refine lv_bipush (v := (nI 8)) hx hb d_M_fits_28 (by decide) ?_
        refine x_ge hx hb 3 8 rfl rfl (by decide) (by decide) (tgt := 41) d_M_fits_30 (by decide) (fun c30 => ?_) (fun c30 => ?_)
        · exact False.elim (by omega)
        refine lv_aload_n hx hb d_M_fits_33 rfl (lv_at hl 0 rfl) ?_
        refine lv_iload_n hx hb d_M_fits_34 rfl (lv_at hl 3 rfl) ?_
        refine x_calli (va_runV (As := [.int x2]) (rest := []) ⟨hx, hb, hml, hown, ht⟩ (c_M_made l G A ws a st hw bE x2) (cwV 1 ht (TW_V k_ml_M_86 k_im_M_made k_se_M_made k_in_M k_code_M_made) rfl rfl rfl hv_M_made ⟨Nat.le_of_ble_eq_true rfl, Nat.le_of_ble_eq_true rfl⟩) ⟨x_blind, va_recv hK hP rfl h1, x_pre hE hA hS hP hD⟩ rfl rfl hl.1 rfl (lv_room (Nat.le_of_ble_eq_true rfl)) d_M_fits_35 ⟨Nat.le_of_ble_eq_true rfl, Nat.le_of_ble_eq_true rfl⟩) hS (fun r33 w32 H locs q31 hP hD hS => ?_)
        obtain ⟨rfl, ⟨rfl, m34⟩ | ⟨rfl, m34⟩⟩ := q31
        · refine x_if_eq hx hb 1 rfl (by decide) (tgt := 56) d_M_fits_38 (by decide) (fun c35 => ?_) (fun c35 => ?_)
          · exact False.elim (by omega)
          refine lv_iload_n hx hb d_M_fits_41 rfl (lv_at hl 1 rfl) ?_
          refine lv_bipush (v := (nI 7)) hx hb d_M_fits_42 (by decide) ?_
          refine x_ne hx hb 3 7 rfl rfl (by decide) (by decide) (tgt := 58) d_M_fits_44 (by decide) (fun c36 => ?_) (fun c36 => ?_)
          rotate_left
          · exact False.elim (by omega)
          refine lv_iload_n hx hb d_M_fits_58 rfl (lv_at hl 1 rfl) ?_
          refine lv_bipush (v := (nI 9)) hx hb d_M_fits_59 (by decide) ?_
          refine x_ne hx hb 3 9 rfl rfl (by decide) (by decide) (tgt := 73) d_M_fits_61 (by decide) (fun c37 => ?_) (fun c37 => ?_)
          rotate_left
          · exact False.elim (by omega)
          refine lv_iconst (v := (nI 1)) hx hb d_M_fits_73 (by decide) ?_
          refine lv_goto (tgt := 78) hx hb d_M_fits_74 (by decide) ?_
          exact x_zret hx hb hr hlocks hS hP hD (Nat.le_of_ble_eq_true rfl) (Nat.le_of_ble_eq_true rfl) d_M_fits_78 rfl (⟨rfl, Or.inl ⟨rfl, (wfx_iff (by decide)).mpr ⟨(by decide), fun _ => m28, fun _ _ => m34, fun q => absurd q (by decide), fun q => absurd q (by decide)⟩⟩⟩)
        · refine x_if_eq hx hb 0 rfl (by decide) (tgt := 56) d_M_fits_38 (by decide) (fun c38 => ?_) (fun c38 => ?_)
          rotate_left
          · exact False.elim (by omega)
          refine lv_iconst (v := (nI 0)) hx hb d_M_fits_56 (by decide) ?_
          exact x_zret hx hb hr hlocks hS hP hD (Nat.le_of_ble_eq_true rfl) (Nat.le_of_ble_eq_true rfl) d_M_fits_57 rfl (⟨rfl, Or.inr ⟨rfl, fun q => by rw [wfx_iff (by decide)] at q; exact m34 (q.2.2.1 (by decide) (by decide))⟩⟩)
      · refine x_if_eq hx hb 0 rfl (by decide) (tgt := 56) d_M_fits_24 (by decide) (fun c39 => ?_) (fun c39 => ?_)
        rotate_left
        · exact False.elim (by omega)
        refine lv_iconst (v := (nI 0)) hx hb d_M_fits_56 (by decide) ?_
        exact x_zret hx hb hr hlocks hS hP hD (Nat.le_of_ble_eq_true rfl) (Nat.le_of_ble_eq_true rfl) d_M_fits_57 rfl (⟨rfl, Or.inr ⟨rfl, fun q => by rw [wfx_iff (by decide)] at q; exact m28 (q.2.1 (by decide))⟩⟩)
    · refine lv_iload_n hx hb d_M_fits_12 rfl (lv_at hl 1 rfl) ?_
      refine lv_iconst (v := (nI 2)) hx hb d_M_fits_13 (by decide) ?_
      refine x_ge hx hb 4 2 rfl rfl (by decide) (by decide) (tgt := 19) d_M_fits_14 (by decide) (fun c40 => ?_) (fun c40 => ?_)
      rotate_left
      · exact False.elim (by omega)
      refine lv_aload_n hx hb d_M_fits_19 rfl (lv_at hl 0 rfl) ?_
      refine lv_iload_n hx hb d_M_fits_20 rfl (lv_at hl 2 rfl) ?_
      refine x_calli (va_runV (As := [.int x1]) (rest := []) ⟨hx, hb, hml, hown, ht⟩ (c_M_made l G A ws a st hw bE x1) (cwV 1 ht (TW_V k_ml_M_86 k_im_M_made k_se_M_made k_in_M k_code_M_made) rfl rfl rfl hv_M_made ⟨Nat.le_of_ble_eq_true rfl, Nat.le_of_ble_eq_true rfl⟩) ⟨x_blind, va_recv hK hP rfl h1, x_pre hE hA hS hP hD⟩ rfl rfl hl.1 rfl (lv_room (Nat.le_of_ble_eq_true rfl)) d_M_fits_21 ⟨Nat.le_of_ble_eq_true rfl, Nat.le_of_ble_eq_true rfl⟩) hS (fun r43 w42 H locs q41 hP hD hS => ?_)
      obtain ⟨rfl, ⟨rfl, m44⟩ | ⟨rfl, m44⟩⟩ := q41
      · refine x_if_eq hx hb 1 rfl (by decide) (tgt := 56) d_M_fits_24 (by decide) (fun c45 => ?_) (fun c45 => ?_)
        · exact False.elim (by omega)
        refine lv_iload_n hx hb d_M_fits_27 rfl (lv_at hl 1 rfl) ?_
        refine lv_bipush (v := (nI 8)) hx hb d_M_fits_28 (by decide) ?_
        refine x_ge hx hb 4 8 rfl rfl (by decide) (by decide) (tgt := 41) d_M_fits_30 (by decide) (fun c46 => ?_) (fun c46 => ?_)
        · exact False.elim (by omega)
        refine lv_aload_n hx hb d_M_fits_33 rfl (lv_at hl 0 rfl) ?_
        refine lv_iload_n hx hb d_M_fits_34 rfl (lv_at hl 3 rfl) ?_
        refine x_calli (va_runV (As := [.int x2]) (rest := []) ⟨hx, hb, hml, hown, ht⟩ (c_M_made l G A ws a st hw bE x2) (cwV 1 ht (TW_V k_ml_M_86 k_im_M_made k_se_M_made k_in_M k_code_M_made) rfl rfl rfl hv_M_made ⟨Nat.le_of_ble_eq_true rfl, Nat.le_of_ble_eq_true rfl⟩) ⟨x_blind, va_recv hK hP rfl h1, x_pre hE hA hS hP hD⟩ rfl rfl hl.1 rfl (lv_room (Nat.le_of_ble_eq_true rfl)) d_M_fits_35 ⟨Nat.le_of_ble_eq_true rfl, Nat.le_of_ble_eq_true rfl⟩) hS (fun r49 w48 H locs q47 hP hD hS => ?_)
        obtain ⟨rfl, ⟨rfl, m50⟩ | ⟨rfl, m50⟩⟩ := q47
        · refine x_if_eq hx hb 1 rfl (by decide) (tgt := 56) d_M_fits_38 (by decide) (fun c51 => ?_) (fun c51 => ?_)
          · exact False.elim (by omega)
          refine lv_iload_n hx hb d_M_fits_41 rfl (lv_at hl 1 rfl) ?_
          refine lv_bipush (v := (nI 7)) hx hb d_M_fits_42 (by decide) ?_
          refine x_ne hx hb 4 7 rfl rfl (by decide) (by decide) (tgt := 58) d_M_fits_44 (by decide) (fun c52 => ?_) (fun c52 => ?_)
          rotate_left
          · exact False.elim (by omega)
          refine lv_iload_n hx hb d_M_fits_58 rfl (lv_at hl 1 rfl) ?_
          refine lv_bipush (v := (nI 9)) hx hb d_M_fits_59 (by decide) ?_
          refine x_ne hx hb 4 9 rfl rfl (by decide) (by decide) (tgt := 73) d_M_fits_61 (by decide) (fun c53 => ?_) (fun c53 => ?_)
          rotate_left
          · exact False.elim (by omega)
          refine lv_iconst (v := (nI 1)) hx hb d_M_fits_73 (by decide) ?_
          refine lv_goto (tgt := 78) hx hb d_M_fits_74 (by decide) ?_
          exact x_zret hx hb hr hlocks hS hP hD (Nat.le_of_ble_eq_true rfl) (Nat.le_of_ble_eq_true rfl) d_M_fits_78 rfl (⟨rfl, Or.inl ⟨rfl, (wfx_iff (by decide)).mpr ⟨(by decide), fun _ => m44, fun _ _ => m50, fun q => absurd q (by decide), fun q => absurd q (by decide)⟩⟩⟩)
        · refine x_if_eq hx hb 0 rfl (by decide) (tgt := 56) d_M_fits_38 (by decide) (fun c54 => ?_) (fun c54 => ?_)
          rotate_left
          · exact False.elim (by omega)
          refine lv_iconst (v := (nI 0)) hx hb d_M_fits_56 (by decide) ?_
          exact x_zret hx hb hr hlocks hS hP hD (Nat.le_of_ble_eq_true rfl) (Nat.le_of_ble_eq_true rfl) d_M_fits_57 rfl (⟨rfl, Or.inr ⟨rfl, fun q => by rw [wfx_iff (by decide)] at q; exact m50 (q.2.2.1 (by decide) (by decide))⟩⟩)
      · refine x_if_eq hx hb 0 rfl (by decide) (tgt := 56) d_M_fits_24 (by decide) (fun c55 => ?_) (fun c55 => ?_)
        rotate_left
        · exact False.elim (by omega)
        refine lv_iconst (v := (nI 0)) hx hb d_M_fits_56 (by decide) ?_
        exact x_zret hx hb hr hlocks hS hP hD (Nat.le_of_ble_eq_true rfl) (Nat.le_of_ble_eq_true rfl) d_M_fits_57 rfl (⟨rfl, Or.inr ⟨rfl, fun q => by rw [wfx_iff (by decide)] at q; exact m44 (q.2.1 (by decide))⟩⟩)
    · refine lv_iload_n hx hb d_M_fits_12 rfl (lv_at hl 1 rfl) ?_
      refine lv_iconst (v := (nI 2)) hx hb d_M_fits_13 (by decide) ?_
      refine x_ge hx hb 5 2 rfl rfl (by decide) (by decide) (tgt := 19) d_M_fits_14 (by decide) (fun c56 => ?_) (fun c56 => ?_)
      rotate_left
      · exact False.elim (by omega)
      refine lv_aload_n hx hb d_M_fits_19 rfl (lv_at hl 0 rfl) ?_
      refine lv_iload_n hx hb d_M_fits_20 rfl (lv_at hl 2 rfl) ?_
      refine x_calli (va_runV (As := [.int x1]) (rest := []) ⟨hx, hb, hml, hown, ht⟩ (c_M_made l G A ws a st hw bE x1) (cwV 1 ht (TW_V k_ml_M_86 k_im_M_made k_se_M_made k_in_M k_code_M_made) rfl rfl rfl hv_M_made ⟨Nat.le_of_ble_eq_true rfl, Nat.le_of_ble_eq_true rfl⟩) ⟨x_blind, va_recv hK hP rfl h1, x_pre hE hA hS hP hD⟩ rfl rfl hl.1 rfl (lv_room (Nat.le_of_ble_eq_true rfl)) d_M_fits_21 ⟨Nat.le_of_ble_eq_true rfl, Nat.le_of_ble_eq_true rfl⟩) hS (fun r59 w58 H locs q57 hP hD hS => ?_)
      obtain ⟨rfl, ⟨rfl, m60⟩ | ⟨rfl, m60⟩⟩ := q57
      · refine x_if_eq hx hb 1 rfl (by decide) (tgt := 56) d_M_fits_24 (by decide) (fun c61 => ?_) (fun c61 => ?_)
        · exact False.elim (by omega)
        refine lv_iload_n hx hb d_M_fits_27 rfl (lv_at hl 1 rfl) ?_
        refine lv_bipush (v := (nI 8)) hx hb d_M_fits_28 (by decide) ?_
        refine x_ge hx hb 5 8 rfl rfl (by decide) (by decide) (tgt := 41) d_M_fits_30 (by decide) (fun c62 => ?_) (fun c62 => ?_)
        · exact False.elim (by omega)
        refine lv_aload_n hx hb d_M_fits_33 rfl (lv_at hl 0 rfl) ?_
        refine lv_iload_n hx hb d_M_fits_34 rfl (lv_at hl 3 rfl) ?_
        refine x_calli (va_runV (As := [.int x2]) (rest := []) ⟨hx, hb, hml, hown, ht⟩ (c_M_made l G A ws a st hw bE x2) (cwV 1 ht (TW_V k_ml_M_86 k_im_M_made k_se_M_made k_in_M k_code_M_made) rfl rfl rfl hv_M_made ⟨Nat.le_of_ble_eq_true rfl, Nat.le_of_ble_eq_true rfl⟩) ⟨x_blind, va_recv hK hP rfl h1, x_pre hE hA hS hP hD⟩ rfl rfl hl.1 rfl (lv_room (Nat.le_of_ble_eq_true rfl)) d_M_fits_35 ⟨Nat.le_of_ble_eq_true rfl, Nat.le_of_ble_eq_true rfl⟩) hS (fun r65 w64 H locs q63 hP hD hS => ?_)
        obtain ⟨rfl, ⟨rfl, m66⟩ | ⟨rfl, m66⟩⟩ := q63
        · refine x_if_eq hx hb 1 rfl (by decide) (tgt := 56) d_M_fits_38 (by decide) (fun c67 => ?_) (fun c67 => ?_)
          · exact False.elim (by omega)
          refine lv_iload_n hx hb d_M_fits_41 rfl (lv_at hl 1 rfl) ?_
          refine lv_bipush (v := (nI 7)) hx hb d_M_fits_42 (by decide) ?_
          refine x_ne hx hb 5 7 rfl rfl (by decide) (by decide) (tgt := 58) d_M_fits_44 (by decide) (fun c68 => ?_) (fun c68 => ?_)
          rotate_left
          · exact False.elim (by omega)
          refine lv_iload_n hx hb d_M_fits_58 rfl (lv_at hl 1 rfl) ?_
          refine lv_bipush (v := (nI 9)) hx hb d_M_fits_59 (by decide) ?_
          refine x_ne hx hb 5 9 rfl rfl (by decide) (by decide) (tgt := 73) d_M_fits_61 (by decide) (fun c69 => ?_) (fun c69 => ?_)
          rotate_left
          · exact False.elim (by omega)
          refine lv_iconst (v := (nI 1)) hx hb d_M_fits_73 (by decide) ?_
          refine lv_goto (tgt := 78) hx hb d_M_fits_74 (by decide) ?_
          exact x_zret hx hb hr hlocks hS hP hD (Nat.le_of_ble_eq_true rfl) (Nat.le_of_ble_eq_true rfl) d_M_fits_78 rfl (⟨rfl, Or.inl ⟨rfl, (wfx_iff (by decide)).mpr ⟨(by decide), fun _ => m60, fun _ _ => m66, fun q => absurd q (by decide), fun q => absurd q (by decide)⟩⟩⟩)
        · refine x_if_eq hx hb 0 rfl (by decide) (tgt := 56) d_M_fits_38 (by decide) (fun c70 => ?_) (fun c70 => ?_)
          rotate_left
          · exact False.elim (by omega)
          refine lv_iconst (v := (nI 0)) hx hb d_M_fits_56 (by decide) ?_
          exact x_zret hx hb hr hlocks hS hP hD (Nat.le_of_ble_eq_true rfl) (Nat.le_of_ble_eq_true rfl) d_M_fits_57 rfl (⟨rfl, Or.inr ⟨rfl, fun q => by rw [wfx_iff (by decide)] at q; exact m66 (q.2.2.1 (by decide) (by decide))⟩⟩)
      · refine x_if_eq hx hb 0 rfl (by decide) (tgt := 56) d_M_fits_24 (by decide) (fun c71 => ?_) (fun c71 => ?_)
        rotate_left
        · exact False.elim (by omega)
        refine lv_iconst (v := (nI 0)) hx hb d_M_fits_56 (by decide) ?_
        exact x_zret hx hb hr hlocks hS hP hD (Nat.le_of_ble_eq_true rfl) (Nat.le_of_ble_eq_true rfl) d_M_fits_57 rfl (⟨rfl, Or.inr ⟨rfl, fun q => by rw [wfx_iff (by decide)] at q; exact m60 (q.2.1 (by decide))⟩⟩)
    · refine lv_iload_n hx hb d_M_fits_12 rfl (lv_at hl 1 rfl) ?_
      refine lv_iconst (v := (nI 2)) hx hb d_M_fits_13 (by decide) ?_
      refine x_ge hx hb 6 2 rfl rfl (by decide) (by decide) (tgt := 19) d_M_fits_14 (by decide) (fun c72 => ?_) (fun c72 => ?_)
      rotate_left
      · exact False.elim (by omega)
      refine lv_aload_n hx hb d_M_fits_19 rfl (lv_at hl 0 rfl) ?_
      refine lv_iload_n hx hb d_M_fits_20 rfl (lv_at hl 2 rfl) ?_
      refine x_calli (va_runV (As := [.int x1]) (rest := []) ⟨hx, hb, hml, hown, ht⟩ (c_M_made l G A ws a st hw bE x1) (cwV 1 ht (TW_V k_ml_M_86 k_im_M_made k_se_M_made k_in_M k_code_M_made) rfl rfl rfl hv_M_made ⟨Nat.le_of_ble_eq_true rfl, Nat.le_of_ble_eq_true rfl⟩) ⟨x_blind, va_recv hK hP rfl h1, x_pre hE hA hS hP hD⟩ rfl rfl hl.1 rfl (lv_room (Nat.le_of_ble_eq_true rfl)) d_M_fits_21 ⟨Nat.le_of_ble_eq_true rfl, Nat.le_of_ble_eq_true rfl⟩) hS (fun r75 w74 H locs q73 hP hD hS => ?_)
      obtain ⟨rfl, ⟨rfl, m76⟩ | ⟨rfl, m76⟩⟩ := q73
      · refine x_if_eq hx hb 1 rfl (by decide) (tgt := 56) d_M_fits_24 (by decide) (fun c77 => ?_) (fun c77 => ?_)
        · exact False.elim (by omega)
        refine lv_iload_n hx hb d_M_fits_27 rfl (lv_at hl 1 rfl) ?_
        refine lv_bipush (v := (nI 8)) hx hb d_M_fits_28 (by decide) ?_
        refine x_ge hx hb 6 8 rfl rfl (by decide) (by decide) (tgt := 41) d_M_fits_30 (by decide) (fun c78 => ?_) (fun c78 => ?_)
        · exact False.elim (by omega)
        refine lv_aload_n hx hb d_M_fits_33 rfl (lv_at hl 0 rfl) ?_
        refine lv_iload_n hx hb d_M_fits_34 rfl (lv_at hl 3 rfl) ?_
        refine x_calli (va_runV (As := [.int x2]) (rest := []) ⟨hx, hb, hml, hown, ht⟩ (c_M_made l G A ws a st hw bE x2) (cwV 1 ht (TW_V k_ml_M_86 k_im_M_made k_se_M_made k_in_M k_code_M_made) rfl rfl rfl hv_M_made ⟨Nat.le_of_ble_eq_true rfl, Nat.le_of_ble_eq_true rfl⟩) ⟨x_blind, va_recv hK hP rfl h1, x_pre hE hA hS hP hD⟩ rfl rfl hl.1 rfl (lv_room (Nat.le_of_ble_eq_true rfl)) d_M_fits_35 ⟨Nat.le_of_ble_eq_true rfl, Nat.le_of_ble_eq_true rfl⟩) hS (fun r81 w80 H locs q79 hP hD hS => ?_)
        obtain ⟨rfl, ⟨rfl, m82⟩ | ⟨rfl, m82⟩⟩ := q79
        · refine x_if_eq hx hb 1 rfl (by decide) (tgt := 56) d_M_fits_38 (by decide) (fun c83 => ?_) (fun c83 => ?_)
          · exact False.elim (by omega)
          refine lv_iload_n hx hb d_M_fits_41 rfl (lv_at hl 1 rfl) ?_
          refine lv_bipush (v := (nI 7)) hx hb d_M_fits_42 (by decide) ?_
          refine x_ne hx hb 6 7 rfl rfl (by decide) (by decide) (tgt := 58) d_M_fits_44 (by decide) (fun c84 => ?_) (fun c84 => ?_)
          rotate_left
          · exact False.elim (by omega)
          refine lv_iload_n hx hb d_M_fits_58 rfl (lv_at hl 1 rfl) ?_
          refine lv_bipush (v := (nI 9)) hx hb d_M_fits_59 (by decide) ?_
          refine x_ne hx hb 6 9 rfl rfl (by decide) (by decide) (tgt := 73) d_M_fits_61 (by decide) (fun c85 => ?_) (fun c85 => ?_)
          rotate_left
          · exact False.elim (by omega)
          refine lv_iconst (v := (nI 1)) hx hb d_M_fits_73 (by decide) ?_
          refine lv_goto (tgt := 78) hx hb d_M_fits_74 (by decide) ?_
          exact x_zret hx hb hr hlocks hS hP hD (Nat.le_of_ble_eq_true rfl) (Nat.le_of_ble_eq_true rfl) d_M_fits_78 rfl (⟨rfl, Or.inl ⟨rfl, (wfx_iff (by decide)).mpr ⟨(by decide), fun _ => m76, fun _ _ => m82, fun q => absurd q (by decide), fun q => absurd q (by decide)⟩⟩⟩)
        · refine x_if_eq hx hb 0 rfl (by decide) (tgt := 56) d_M_fits_38 (by decide) (fun c86 => ?_) (fun c86 => ?_)
          rotate_left
          · exact False.elim (by omega)
          refine lv_iconst (v := (nI 0)) hx hb d_M_fits_56 (by decide) ?_
          exact x_zret hx hb hr hlocks hS hP hD (Nat.le_of_ble_eq_true rfl) (Nat.le_of_ble_eq_true rfl) d_M_fits_57 rfl (⟨rfl, Or.inr ⟨rfl, fun q => by rw [wfx_iff (by decide)] at q; exact m82 (q.2.2.1 (by decide) (by decide))⟩⟩)
      · refine x_if_eq hx hb 0 rfl (by decide) (tgt := 56) d_M_fits_24 (by decide) (fun c87 => ?_) (fun c87 => ?_)
        rotate_left
        · exact False.elim (by omega)
        refine lv_iconst (v := (nI 0)) hx hb d_M_fits_56 (by decide) ?_
        exact x_zret hx hb hr hlocks hS hP hD (Nat.le_of_ble_eq_true rfl) (Nat.le_of_ble_eq_true rfl) d_M_fits_57 rfl (⟨rfl, Or.inr ⟨rfl, fun q => by rw [wfx_iff (by decide)] at q; exact m76 (q.2.1 (by decide))⟩⟩)
    · refine lv_iload_n hx hb d_M_fits_12 rfl (lv_at hl 1 rfl) ?_
      refine lv_iconst (v := (nI 2)) hx hb d_M_fits_13 (by decide) ?_
      refine x_ge hx hb 7 2 rfl rfl (by decide) (by decide) (tgt := 19) d_M_fits_14 (by decide) (fun c88 => ?_) (fun c88 => ?_)
      rotate_left
      · exact False.elim (by omega)
      refine lv_aload_n hx hb d_M_fits_19 rfl (lv_at hl 0 rfl) ?_
      refine lv_iload_n hx hb d_M_fits_20 rfl (lv_at hl 2 rfl) ?_
      refine x_calli (va_runV (As := [.int x1]) (rest := []) ⟨hx, hb, hml, hown, ht⟩ (c_M_made l G A ws a st hw bE x1) (cwV 1 ht (TW_V k_ml_M_86 k_im_M_made k_se_M_made k_in_M k_code_M_made) rfl rfl rfl hv_M_made ⟨Nat.le_of_ble_eq_true rfl, Nat.le_of_ble_eq_true rfl⟩) ⟨x_blind, va_recv hK hP rfl h1, x_pre hE hA hS hP hD⟩ rfl rfl hl.1 rfl (lv_room (Nat.le_of_ble_eq_true rfl)) d_M_fits_21 ⟨Nat.le_of_ble_eq_true rfl, Nat.le_of_ble_eq_true rfl⟩) hS (fun r91 w90 H locs q89 hP hD hS => ?_)
      obtain ⟨rfl, ⟨rfl, m92⟩ | ⟨rfl, m92⟩⟩ := q89
      · refine x_if_eq hx hb 1 rfl (by decide) (tgt := 56) d_M_fits_24 (by decide) (fun c93 => ?_) (fun c93 => ?_)
        · exact False.elim (by omega)
        refine lv_iload_n hx hb d_M_fits_27 rfl (lv_at hl 1 rfl) ?_
        refine lv_bipush (v := (nI 8)) hx hb d_M_fits_28 (by decide) ?_
        refine x_ge hx hb 7 8 rfl rfl (by decide) (by decide) (tgt := 41) d_M_fits_30 (by decide) (fun c94 => ?_) (fun c94 => ?_)
        · exact False.elim (by omega)
        refine lv_aload_n hx hb d_M_fits_33 rfl (lv_at hl 0 rfl) ?_
        refine lv_iload_n hx hb d_M_fits_34 rfl (lv_at hl 3 rfl) ?_
        refine x_calli (va_runV (As := [.int x2]) (rest := []) ⟨hx, hb, hml, hown, ht⟩ (c_M_made l G A ws a st hw bE x2) (cwV 1 ht (TW_V k_ml_M_86 k_im_M_made k_se_M_made k_in_M k_code_M_made) rfl rfl rfl hv_M_made ⟨Nat.le_of_ble_eq_true rfl, Nat.le_of_ble_eq_true rfl⟩) ⟨x_blind, va_recv hK hP rfl h1, x_pre hE hA hS hP hD⟩ rfl rfl hl.1 rfl (lv_room (Nat.le_of_ble_eq_true rfl)) d_M_fits_35 ⟨Nat.le_of_ble_eq_true rfl, Nat.le_of_ble_eq_true rfl⟩) hS (fun r97 w96 H locs q95 hP hD hS => ?_)
        obtain ⟨rfl, ⟨rfl, m98⟩ | ⟨rfl, m98⟩⟩ := q95
        · refine x_if_eq hx hb 1 rfl (by decide) (tgt := 56) d_M_fits_38 (by decide) (fun c99 => ?_) (fun c99 => ?_)
          · exact False.elim (by omega)
          refine lv_iload_n hx hb d_M_fits_41 rfl (lv_at hl 1 rfl) ?_
          refine lv_bipush (v := (nI 7)) hx hb d_M_fits_42 (by decide) ?_
          refine x_ne hx hb 7 7 rfl rfl (by decide) (by decide) (tgt := 58) d_M_fits_44 (by decide) (fun c100 => ?_) (fun c100 => ?_)
          · exact False.elim (by omega)
          refine lv_aload_n hx hb d_M_fits_47 rfl (lv_at hl 0 rfl) ?_
          refine lv_iload hx hb d_M_fits_48 (lv_at hl 4 rfl) ?_
          refine x_calli (va_runV (As := [.int x3]) (rest := []) ⟨hx, hb, hml, hown, ht⟩ (c_M_made l G A ws a st hw bE x3) (cwV 1 ht (TW_V k_ml_M_86 k_im_M_made k_se_M_made k_in_M k_code_M_made) rfl rfl rfl hv_M_made ⟨Nat.le_of_ble_eq_true rfl, Nat.le_of_ble_eq_true rfl⟩) ⟨x_blind, va_recv hK hP rfl h1, x_pre hE hA hS hP hD⟩ rfl rfl hl.1 rfl (lv_room (Nat.le_of_ble_eq_true rfl)) d_M_fits_50 ⟨Nat.le_of_ble_eq_true rfl, Nat.le_of_ble_eq_true rfl⟩) hS (fun r103 w102 H locs q101 hP hD hS => ?_)
          obtain ⟨rfl, ⟨rfl, m104⟩ | ⟨rfl, m104⟩⟩ := q101
          · refine x_if_ne hx hb 1 rfl (by decide) (tgt := 58) d_M_fits_53 (by decide) (fun c105 => ?_) (fun c105 => ?_)
            rotate_left
            · exact False.elim (by omega)
            refine lv_iload_n hx hb d_M_fits_58 rfl (lv_at hl 1 rfl) ?_
            refine lv_bipush (v := (nI 9)) hx hb d_M_fits_59 (by decide) ?_
            refine x_ne hx hb 7 9 rfl rfl (by decide) (by decide) (tgt := 73) d_M_fits_61 (by decide) (fun c106 => ?_) (fun c106 => ?_)
            rotate_left
            · exact False.elim (by omega)
            refine lv_iconst (v := (nI 1)) hx hb d_M_fits_73 (by decide) ?_
            refine lv_goto (tgt := 78) hx hb d_M_fits_74 (by decide) ?_
            exact x_zret hx hb hr hlocks hS hP hD (Nat.le_of_ble_eq_true rfl) (Nat.le_of_ble_eq_true rfl) d_M_fits_78 rfl (⟨rfl, Or.inl ⟨rfl, (wfx_iff (by decide)).mpr ⟨(by decide), fun _ => m92, fun _ _ => m98, fun _ => m104, fun q => absurd q (by decide)⟩⟩⟩)
          · refine x_if_ne hx hb 0 rfl (by decide) (tgt := 58) d_M_fits_53 (by decide) (fun c107 => ?_) (fun c107 => ?_)
            · exact False.elim (by omega)
            refine lv_iconst (v := (nI 0)) hx hb d_M_fits_56 (by decide) ?_
            exact x_zret hx hb hr hlocks hS hP hD (Nat.le_of_ble_eq_true rfl) (Nat.le_of_ble_eq_true rfl) d_M_fits_57 rfl (⟨rfl, Or.inr ⟨rfl, fun q => by rw [wfx_iff (by decide)] at q; exact m104 (q.2.2.2.1 rfl)⟩⟩)
        · refine x_if_eq hx hb 0 rfl (by decide) (tgt := 56) d_M_fits_38 (by decide) (fun c108 => ?_) (fun c108 => ?_)
          rotate_left
          · exact False.elim (by omega)
          refine lv_iconst (v := (nI 0)) hx hb d_M_fits_56 (by decide) ?_
          exact x_zret hx hb hr hlocks hS hP hD (Nat.le_of_ble_eq_true rfl) (Nat.le_of_ble_eq_true rfl) d_M_fits_57 rfl (⟨rfl, Or.inr ⟨rfl, fun q => by rw [wfx_iff (by decide)] at q; exact m98 (q.2.2.1 (by decide) (by decide))⟩⟩)
      · refine x_if_eq hx hb 0 rfl (by decide) (tgt := 56) d_M_fits_24 (by decide) (fun c109 => ?_) (fun c109 => ?_)
        rotate_left
        · exact False.elim (by omega)
        refine lv_iconst (v := (nI 0)) hx hb d_M_fits_56 (by decide) ?_
        exact x_zret hx hb hr hlocks hS hP hD (Nat.le_of_ble_eq_true rfl) (Nat.le_of_ble_eq_true rfl) d_M_fits_57 rfl (⟨rfl, Or.inr ⟨rfl, fun q => by rw [wfx_iff (by decide)] at q; exact m92 (q.2.1 (by decide))⟩⟩)
    · refine lv_iload_n hx hb d_M_fits_12 rfl (lv_at hl 1 rfl) ?_
      refine lv_iconst (v := (nI 2)) hx hb d_M_fits_13 (by decide) ?_
      refine x_ge hx hb 8 2 rfl rfl (by decide) (by decide) (tgt := 19) d_M_fits_14 (by decide) (fun c110 => ?_) (fun c110 => ?_)
      rotate_left
      · exact False.elim (by omega)
      refine lv_aload_n hx hb d_M_fits_19 rfl (lv_at hl 0 rfl) ?_
      refine lv_iload_n hx hb d_M_fits_20 rfl (lv_at hl 2 rfl) ?_
      refine x_calli (va_runV (As := [.int x1]) (rest := []) ⟨hx, hb, hml, hown, ht⟩ (c_M_made l G A ws a st hw bE x1) (cwV 1 ht (TW_V k_ml_M_86 k_im_M_made k_se_M_made k_in_M k_code_M_made) rfl rfl rfl hv_M_made ⟨Nat.le_of_ble_eq_true rfl, Nat.le_of_ble_eq_true rfl⟩) ⟨x_blind, va_recv hK hP rfl h1, x_pre hE hA hS hP hD⟩ rfl rfl hl.1 rfl (lv_room (Nat.le_of_ble_eq_true rfl)) d_M_fits_21 ⟨Nat.le_of_ble_eq_true rfl, Nat.le_of_ble_eq_true rfl⟩) hS (fun r113 w112 H locs q111 hP hD hS => ?_)
      obtain ⟨rfl, ⟨rfl, m114⟩ | ⟨rfl, m114⟩⟩ := q111
      · refine x_if_eq hx hb 1 rfl (by decide) (tgt := 56) d_M_fits_24 (by decide) (fun c115 => ?_) (fun c115 => ?_)
        · exact False.elim (by omega)
        refine lv_iload_n hx hb d_M_fits_27 rfl (lv_at hl 1 rfl) ?_
        refine lv_bipush (v := (nI 8)) hx hb d_M_fits_28 (by decide) ?_
        refine x_ge hx hb 8 8 rfl rfl (by decide) (by decide) (tgt := 41) d_M_fits_30 (by decide) (fun c116 => ?_) (fun c116 => ?_)
        rotate_left
        · exact False.elim (by omega)
        refine lv_iload_n hx hb d_M_fits_41 rfl (lv_at hl 1 rfl) ?_
        refine lv_bipush (v := (nI 7)) hx hb d_M_fits_42 (by decide) ?_
        refine x_ne hx hb 8 7 rfl rfl (by decide) (by decide) (tgt := 58) d_M_fits_44 (by decide) (fun c117 => ?_) (fun c117 => ?_)
        rotate_left
        · exact False.elim (by omega)
        refine lv_iload_n hx hb d_M_fits_58 rfl (lv_at hl 1 rfl) ?_
        refine lv_bipush (v := (nI 9)) hx hb d_M_fits_59 (by decide) ?_
        refine x_ne hx hb 8 9 rfl rfl (by decide) (by decide) (tgt := 73) d_M_fits_61 (by decide) (fun c118 => ?_) (fun c118 => ?_)
        rotate_left
        · exact False.elim (by omega)
        refine lv_iconst (v := (nI 1)) hx hb d_M_fits_73 (by decide) ?_
        refine lv_goto (tgt := 78) hx hb d_M_fits_74 (by decide) ?_
        exact x_zret hx hb hr hlocks hS hP hD (Nat.le_of_ble_eq_true rfl) (Nat.le_of_ble_eq_true rfl) d_M_fits_78 rfl (⟨rfl, Or.inl ⟨rfl, (wfx_iff (by decide)).mpr ⟨(by decide), fun _ => m114, fun _ q => absurd q (by decide), fun q => absurd q (by decide), fun q => absurd q (by decide)⟩⟩⟩)
      · refine x_if_eq hx hb 0 rfl (by decide) (tgt := 56) d_M_fits_24 (by decide) (fun c119 => ?_) (fun c119 => ?_)
        rotate_left
        · exact False.elim (by omega)
        refine lv_iconst (v := (nI 0)) hx hb d_M_fits_56 (by decide) ?_
        exact x_zret hx hb hr hlocks hS hP hD (Nat.le_of_ble_eq_true rfl) (Nat.le_of_ble_eq_true rfl) d_M_fits_57 rfl (⟨rfl, Or.inr ⟨rfl, fun q => by rw [wfx_iff (by decide)] at q; exact m114 (q.2.1 (by decide))⟩⟩)
    · refine lv_iload_n hx hb d_M_fits_12 rfl (lv_at hl 1 rfl) ?_
      refine lv_iconst (v := (nI 2)) hx hb d_M_fits_13 (by decide) ?_
      refine x_ge hx hb 9 2 rfl rfl (by decide) (by decide) (tgt := 19) d_M_fits_14 (by decide) (fun c120 => ?_) (fun c120 => ?_)
      rotate_left
      · exact False.elim (by omega)
      refine lv_aload_n hx hb d_M_fits_19 rfl (lv_at hl 0 rfl) ?_
      refine lv_iload_n hx hb d_M_fits_20 rfl (lv_at hl 2 rfl) ?_
      refine x_calli (va_runV (As := [.int x1]) (rest := []) ⟨hx, hb, hml, hown, ht⟩ (c_M_made l G A ws a st hw bE x1) (cwV 1 ht (TW_V k_ml_M_86 k_im_M_made k_se_M_made k_in_M k_code_M_made) rfl rfl rfl hv_M_made ⟨Nat.le_of_ble_eq_true rfl, Nat.le_of_ble_eq_true rfl⟩) ⟨x_blind, va_recv hK hP rfl h1, x_pre hE hA hS hP hD⟩ rfl rfl hl.1 rfl (lv_room (Nat.le_of_ble_eq_true rfl)) d_M_fits_21 ⟨Nat.le_of_ble_eq_true rfl, Nat.le_of_ble_eq_true rfl⟩) hS (fun r123 w122 H locs q121 hP hD hS => ?_)
      obtain ⟨rfl, ⟨rfl, m124⟩ | ⟨rfl, m124⟩⟩ := q121
      · refine x_if_eq hx hb 1 rfl (by decide) (tgt := 56) d_M_fits_24 (by decide) (fun c125 => ?_) (fun c125 => ?_)
        · exact False.elim (by omega)
        refine lv_iload_n hx hb d_M_fits_27 rfl (lv_at hl 1 rfl) ?_
        refine lv_bipush (v := (nI 8)) hx hb d_M_fits_28 (by decide) ?_
        refine x_ge hx hb 9 8 rfl rfl (by decide) (by decide) (tgt := 41) d_M_fits_30 (by decide) (fun c126 => ?_) (fun c126 => ?_)
        rotate_left
        · exact False.elim (by omega)
        refine lv_iload_n hx hb d_M_fits_41 rfl (lv_at hl 1 rfl) ?_
        refine lv_bipush (v := (nI 7)) hx hb d_M_fits_42 (by decide) ?_
        refine x_ne hx hb 9 7 rfl rfl (by decide) (by decide) (tgt := 58) d_M_fits_44 (by decide) (fun c127 => ?_) (fun c127 => ?_)
        rotate_left
        · exact False.elim (by omega)
        refine lv_iload_n hx hb d_M_fits_58 rfl (lv_at hl 1 rfl) ?_
        refine lv_bipush (v := (nI 9)) hx hb d_M_fits_59 (by decide) ?_
        refine x_ne hx hb 9 9 rfl rfl (by decide) (by decide) (tgt := 73) d_M_fits_61 (by decide) (fun c128 => ?_) (fun c128 => ?_)
        · exact False.elim (by omega)
        refine lv_iload_n hx hb d_M_fits_64 rfl (lv_at hl 3 rfl) ?_
        refine lv_iconst (v := (nI 1)) hx hb d_M_fits_65 (by decide) ?_
        refine lv_iconst (v := (nI 5)) hx hb d_M_fits_66 (by decide) ?_
        refine x_calli (va_runS (As := [.int x2, .int (nI 1), .int (nI 5)]) (rest := []) ⟨hx, hb, hml, hown, ht⟩ (c_M_in l G A ws x2 (nI 1) (nI 5)) (va_cwS 3 ht (TW_S k_ml_M_56 k_st_M_in k_in_M k_code_M_in) rfl rfl rfl hv_M_in.2 ⟨Nat.le_of_ble_eq_true rfl, Nat.le_of_ble_eq_true rfl⟩) ⟨x_blind, x_pre hE hA hS hP hD⟩ rfl rfl hl.1 rfl (lv_room (Nat.le_of_ble_eq_true rfl)) d_M_fits_67 ⟨Nat.le_of_ble_eq_true rfl, Nat.le_of_ble_eq_true rfl⟩) hS (fun r131 w130 H locs q129 hP hD hS => ?_)
        obtain ⟨rfl, ⟨rfl, m132⟩ | ⟨rfl, m132⟩⟩ := q129
        · refine x_if_eq hx hb 1 rfl (by decide) (tgt := 77) d_M_fits_70 (by decide) (fun c133 => ?_) (fun c133 => ?_)
          · exact False.elim (by omega)
          refine lv_iconst (v := (nI 1)) hx hb d_M_fits_73 (by decide) ?_
          refine lv_goto (tgt := 78) hx hb d_M_fits_74 (by decide) ?_
          exact x_zret hx hb hr hlocks hS hP hD (Nat.le_of_ble_eq_true rfl) (Nat.le_of_ble_eq_true rfl) d_M_fits_78 rfl (⟨rfl, Or.inl ⟨rfl, (wfx_iff (by decide)).mpr ⟨(by decide), fun _ => m124, fun _ q => absurd q (by decide), fun q => absurd q (by decide), fun _ => rng15 m132.1 m132.2⟩⟩⟩)
        · refine x_if_eq hx hb 0 rfl (by decide) (tgt := 77) d_M_fits_70 (by decide) (fun c134 => ?_) (fun c134 => ?_)
          rotate_left
          · exact False.elim (by omega)
          refine lv_iconst (v := (nI 0)) hx hb d_M_fits_77 (by decide) ?_
          exact x_zret hx hb hr hlocks hS hP hD (Nat.le_of_ble_eq_true rfl) (Nat.le_of_ble_eq_true rfl) d_M_fits_78 rfl (⟨rfl, Or.inr ⟨rfl, fun q => by rw [wfx_iff (by decide)] at q; exact by obtain ⟨b, b1, b2, e9⟩ := q.2.2.2.2 rfl; rw [e9] at m132; rcases m132 with z | z; exact absurd ((nI_ltI (by omega) (by decide)).mp z) (by omega); exact absurd ((nI_ltI (by decide) (by omega)).mp z) (by omega)⟩⟩)
      · refine x_if_eq hx hb 0 rfl (by decide) (tgt := 56) d_M_fits_24 (by decide) (fun c135 => ?_) (fun c135 => ?_)
        rotate_left
        · exact False.elim (by omega)
        refine lv_iconst (v := (nI 0)) hx hb d_M_fits_56 (by decide) ?_
        exact x_zret hx hb hr hlocks hS hP hD (Nat.le_of_ble_eq_true rfl) (Nat.le_of_ble_eq_true rfl) d_M_fits_57 rfl (⟨rfl, Or.inr ⟨rfl, fun q => by rw [wfx_iff (by decide)] at q; exact m124 (q.2.1 (by decide))⟩⟩)
  · refine x_if_ne hx hb 0 rfl (by decide) (tgt := 12) d_M_fits_7 (by decide) (fun c136 => ?_) (fun c136 => ?_)
    · exact False.elim (by omega)
    refine lv_iconst (v := (nI 0)) hx hb d_M_fits_10 (by decide) ?_
    exact x_zret hx hb hr hlocks hS hP hD (Nat.le_of_ble_eq_true rfl) (Nat.le_of_ble_eq_true rfl) d_M_fits_11 rfl (⟨rfl, Or.inr ⟨rfl, fun ⟨kd, e, q⟩ => not_or2 hm ((in_mdn (by decide)).mpr ⟨kd, by have := q.1; omega, e⟩)⟩⟩)
