theorem isK_c {f g : Nat → Nat} (h : ∀ j, j < 60 → f j = g j) : isK f ↔ lastV g 59 = 0 := by
  rw [isK_last]
  exact ⟨fun q j h0 h1 => by rw [← h j h1]; exact q j h0 h1, fun q j h0 h1 => by rw [h j h1]; exact q j h0 h1⟩

set_option maxHeartbeats 4000000 in
set_option maxRecDepth 100000 in
theorem c_M_mul (l : Launch) (G : xG) (A : Nat → Prop) (ws : va_W) (a : MA) (st : MS) (hw : ws = mW G a st) (V : List VV) (E : List EE) (K : List KK) (inp : Nat) (w : Nat → Nat) (wV wC : Nat) (hM : MRel st V E K inp w wV wC) (f g : Nat → Nat) (hL9 : ∀ j, j < 60 → st.L j = f j) (hT9 : ∀ j, j < 60 → st.T j = g j) (bf : ∀ j, j < 60 → f j < 97) (bg : ∀ j, j < 60 → g j < 97) (sf : ∀ j, V.length ≤ j → j < 60 → f j = 0) (sg : ∀ j, V.length ≤ j → j < 60 → g j = 0) (bV : V.length + cp f g ≤ 60) (bK : K.length + cp f g ≤ 80) : Met l y_M_multiply (cw_M_multiply :: TW) { frames := 4, cells := 0, slots := 0, locals := 104 } (va_Pc [.ref a.m] (x_P G A ws)) (qV G A (fun w9 => ∃ st' : MS, w9 = mW G a st' ∧ MRel st' (prodS (V, K) f g).1.1 E (prodS (V, K) f g).1.2 inp w wV wC ∧ (∀ j, j < 60 → st'.L j = (prodS (V, K) f g).2 j) ∧ (∀ j, (prodS (V, K) f g).1.1.length ≤ j → j < 60 → (prodS (V, K) f g).2 j = 0) ∧ st'.th = st.th)) 0 0 A := by
  refine Met.ofW (cc := b_M_multiply) (maxL := 4) (ret := none) (by decide) rfl ?_
  intro p e s m args below meth c s₁ B hml hv
  obtain ⟨rfl, hE, hA, hP, hD⟩ := hv
  have hx := B.exec
  have hb := B.bytes
  have hr := B.returns
  have ht : ∀ w ∈ TW, w.before _ s = true := fun w h => atoms_spec (ws := cw_M_multiply :: TW) B.pre w (List.mem_cons_of_mem _ h)
  have hown : s.vm.findClass R_M = some m.cls := findClass_of_methodNamed B.named
  have hlocks := B.notSynchronized
  have hK := hE.1
  have hS : va_S A s.heap s.heap [] := va_S.rf
  have hl := lv_entry ([.ref a.m]) (n := 4) (Nat.le_of_ble_eq_true rfl)
  rw [lg_entry_eq]
  generalize (lg_sl ([.ref a.m]) ++ List.replicate (4 - (lg_sl ([.ref a.m])).length) Slot.unset).toArray = ls at hl ⊢
  have hl : lv_has ls 4 [(0, .ref a.m)] := hl
  have bL : ∀ j, j < 60 → st.L j < 97 := fun j hj => by rw [hL9 j hj]; exact bf j hj
  have bT : ∀ j, j < 60 → st.T j < 97 := fun j hj => by rw [hT9 j hj]; exact bg j hj
  have h1 : ws[0]? = some (a.m, .inr (5, [.int (nI st.th), .ref a.aS, .ref a.aK, .ref a.aI, .int (nI st.ex), .ref a.aH, .ref a.aF, .ref a.aG, .int (nI st.va), .ref a.aR, .int (nI st.co), .ref a.aL, .ref a.aT, .ref a.aO, .ref a.aB, .ref a.aW, .int (nI st.sv), .int (nI st.kn), .int (nI st.kc)])) := by rw [hw]; rfl
  have h2 : ws[8]? = some (a.aL, aI G 60 (rI st.L)) := by rw [hw]; rfl
  have h3 : ws[9]? = some (a.aT, aI G 60 (rI st.T)) := by rw [hw]; rfl
  refine lv_aload_n hx hb d_M_multiply_0 rfl (lv_at hl 0 rfl) ?_
  refine va_get (D := xD G) (ci := 5) (C := R_M) (T := F_M) (N := 19) hx hb ht in_M hown hK hP 0 h1 rfl 11 (by decide) (ht _ k_fl_M_35) (fun _ h9 => h9) rfl d_M_multiply_1 ?_
  refine x_calli (va_runS (As := [.ref a.aL]) (rest := []) ⟨hx, hb, hml, hown, ht⟩ (c_M_constant l G A ws 8 a.aL st.L h2 bL) (va_cwS 1 ht (TW_S k_ml_M_68 k_st_M_constant k_in_M k_code_M_constant) rfl rfl rfl hv_M_constant.2 ⟨Nat.le_of_ble_eq_true rfl, Nat.le_of_ble_eq_true rfl⟩) ⟨x_blind, x_pre hE hA hS hP hD⟩ rfl rfl hl.1 rfl (lv_room (Nat.le_of_ble_eq_true rfl)) d_M_multiply_4 ⟨Nat.le_of_ble_eq_true rfl, Nat.le_of_ble_eq_true rfl⟩) hS (fun r6 w5 H locs q4 hP hD hS => ?_)
  obtain ⟨rfl, ⟨rfl, k7⟩ | ⟨rfl, k7⟩⟩ := q4
  · have kl := (isK_c hL9).mp k7
    refine x_if_ne hx hb 1 rfl (by omega) (tgt := 20) d_M_multiply_7 (by decide) (fun c8 => ?_) (fun c8 => ?_)
    · refine lv_aload_n hx hb d_M_multiply_20 rfl (lv_at hl 0 rfl) ?_
      refine va_get (D := xD G) (ci := 5) (C := R_M) (T := F_M) (N := 19) hx hb ht in_M hown hK hP 0 h1 rfl 11 (by decide) (ht _ k_fl_M_35) (fun _ h9 => h9) rfl d_M_multiply_21 ?_
      refine x_calli (va_runS (As := [.ref a.aL]) (rest := []) ⟨hx, hb, hml, hown, ht⟩ (c_M_constant l G A ws 8 a.aL st.L h2 bL) (va_cwS 1 ht (TW_S k_ml_M_68 k_st_M_constant k_in_M k_code_M_constant) rfl rfl rfl hv_M_constant.2 ⟨Nat.le_of_ble_eq_true rfl, Nat.le_of_ble_eq_true rfl⟩) ⟨x_blind, x_pre hE hA hS hP hD⟩ rfl rfl hl.1 rfl (lv_room (Nat.le_of_ble_eq_true rfl)) d_M_multiply_24 ⟨Nat.le_of_ble_eq_true rfl, Nat.le_of_ble_eq_true rfl⟩) hS (fun r11 w10 H locs q9 hP hD hS => ?_)
      obtain ⟨rfl, ⟨rfl, k12⟩ | ⟨rfl, k12⟩⟩ := q9
      · refine lv_istore_n (lv' := [(1, .int (nI 1)), (0, .ref a.m)]) hx hb d_M_multiply_27 rfl hl (by decide) rfl (fun ls hl => ?_)
        refine lv_iload_n hx hb d_M_multiply_28 rfl (lv_at hl 0 rfl) ?_
        refine x_if_eq hx hb 1 rfl (by omega) (tgt := 41) d_M_multiply_29 (by decide) (fun c13 => ?_) (fun c13 => ?_)
        · exact False.elim (by omega)
        · refine lv_aload_n hx hb d_M_multiply_32 rfl (lv_at hl 1 rfl) ?_
          refine va_get (D := xD G) (ci := 5) (C := R_M) (T := F_M) (N := 19) hx hb ht in_M hown hK hP 0 h1 rfl 11 (by decide) (ht _ k_fl_M_35) (fun _ h9 => h9) rfl d_M_multiply_33 ?_
          refine lv_iconst (v := (nI 0)) hx hb d_M_multiply_36 (by decide) ?_
          refine x_iald hx hb hK hP h2 0 rfl (by decide) (by omega) d_M_multiply_37 ?_
          refine x_top (nI (st.L 0)) (rfl) ?_
          refine lv_goto (tgt := 47) hx hb d_M_multiply_38 (by decide) ?_
          refine lv_istore_n (lv' := [(2, .int (nI (st.L 0))), (1, .int (nI 1)), (0, .ref a.m)]) hx hb d_M_multiply_47 rfl hl (by decide) rfl (fun ls hl => ?_)
          refine lv_iconst (v := (nI 0)) hx hb d_M_multiply_48 (by decide) ?_
          refine lv_istore_n (lv' := [(3, .int (nI 0)), (2, .int (nI (st.L 0))), (1, .int (nI 1)), (0, .ref a.m)]) hx hb d_M_multiply_49 rfl hl (by decide) rfl (fun ls hl => ?_)
          have z0 := bL 0 (by decide)
          have z9 : ws = (ws.set 8 (a.aL, aI G 60 (rI (ovb 0 0 st.L (fun j => st.L 0 * st.T j % 97))))) := by rw [ovb_0]; exact (w_self h2).symm
          rw [z9] at hP hD
          have loop : ∀ (n i : Nat), i + n = 60 → ∀ (H : Heap) (locs : List Loc) (ls : Array Slot), (va_P (xD G) CL (ws.set 8 (a.aL, aI G 60 (rI (ovb i 0 st.L (fun j => st.L 0 * st.T j % 97))))) H) → (va_D A (ws.set 8 (a.aL, aI G 60 (rI (ovb i 0 st.L (fun j => st.L 0 * st.T j % 97)))))) → (va_S A s.heap H locs) → lv_has ls 4 [(3, .int (nI i)), (2, .int (nI (st.L 0))), (1, .int (nI 1)), (0, .ref a.m)] → W p l e (headSpec (cw_M_multiply :: TW) { frames := 4, cells := 0, slots := 0, locals := 104 }).room s m ([.ref a.m] : List Value).toArray below meth c H locs 0 0 (MQ below (qV G A (fun w9 => ∃ st' : MS, w9 = mW G a st' ∧ MRel st' (prodS (V, K) f g).1.1 E (prodS (V, K) f g).1.2 inp w wV wC ∧ (∀ j, j < 60 → st'.L j = (prodS (V, K) f g).2 j) ∧ (∀ j, (prodS (V, K) f g).1.1.length ≤ j → j < 60 → (prodS (V, K) f g).2 j = 0) ∧ st'.th = st.th)) ([.ref a.m] : List Value).toArray s 0 0 A) (F0 m 50 ls []) := by
            intro n
            induction n with
            | zero =>
              intro i hi H locs ls hP hD hS hl
              refine lv_iload_n hx hb d_M_multiply_50 rfl (lv_at hl 0 rfl) ?_
              refine lv_bipush (v := (nI 60)) hx hb d_M_multiply_51 (by decide) ?_
              refine x_ge hx hb i 60 rfl rfl (by omega) (by omega) (tgt := 92) d_M_multiply_53 (by decide) (fun c14 => ?_) (fun c14 => ?_)
              · have i0 : i = 60 := by omega
                rw [i0] at hP hD
                obtain ⟨w15, e_w15⟩ : ∃ zz : va_W, zz = (ws.set 8 (a.aL, aI G 60 (rI (ovb 60 0 st.L (fun j => st.L 0 * st.T j % 97))))) := ⟨_, rfl⟩
                rw [← e_w15] at hP hD
                have h16 : w15[0]? = some (a.m, .inr (5, [.int (nI st.th), .ref a.aS, .ref a.aK, .ref a.aI, .int (nI st.ex), .ref a.aH, .ref a.aF, .ref a.aG, .int (nI st.va), .ref a.aR, .int (nI st.co), .ref a.aL, .ref a.aT, .ref a.aO, .ref a.aB, .ref a.aW, .int (nI st.sv), .int (nI st.kn), .int (nI st.kc)])) := by rw [e_w15]; exact w_ne (by decide) h1
                have h17 : w15[8]? = some (a.aL, aI G 60 (rI (ovb 60 0 st.L (fun j => st.L 0 * st.T j % 97)))) := by rw [e_w15]; exact w_eq h2
                have h18 : w15[9]? = some (a.aT, aI G 60 (rI st.T)) := by rw [e_w15]; exact w_ne (by decide) h3
                have E19 : w15 = mW G a (⟨st.th, st.ex, st.va, st.co, st.sv, st.kn, st.kc, st.S, st.Kd, st.In, st.Hw, st.Fr, st.Gn, st.R, (ovb 60 0 st.L (fun j => st.L 0 * st.T j % 97)), st.T, st.O, st.B, st.W⟩ : MS) := by rw [e_w15, hw]; rfl
                have h20 : w15[0]? = some (a.m, .inr (5, [.int (nI st.th), .ref a.aS, .ref a.aK, .ref a.aI, .int (nI st.ex), .ref a.aH, .ref a.aF, .ref a.aG, .int (nI st.va), .ref a.aR, .int (nI st.co), .ref a.aL, .ref a.aT, .ref a.aO, .ref a.aB, .ref a.aW, .int (nI st.sv), .int (nI st.kn), .int (nI st.kc)])) := by rw [E19]; rfl
                have e7 : prodS (V, K) f g = ((V, K), cmb (f 0) g 0 g) := by unfold prodS; rw [if_pos kl]
                have e8 : ∀ j, j < 60 → (ovb 60 0 st.L (fun j => st.L 0 * st.T j % 97)) j = cmb (f 0) g 0 g j := fun j hj => by rw [ovb_at hj]; show st.L 0 * st.T j % 97 = (f 0 * g j + 0 * g j) % 97; rw [hL9 0 (by decide), hT9 j hj, Nat.zero_mul, Nat.add_zero]
                have e9 : ∀ j, V.length ≤ j → j < 60 → cmb (f 0) g 0 g j = 0 := fun j h1 hj => by simp [cmb, sg j h1 hj]
                exact x_vret hx hb hr hlocks hS hP hD (Nat.le_of_ble_eq_true rfl) (Nat.le_of_ble_eq_true rfl) d_M_multiply_92 (⟨_, E19, by rw [e7]; exact hM, by rw [e7]; exact e8, by rw [e7]; exact e9, rfl⟩)
              · exact False.elim (by omega)
            | succ n ih =>
              intro i hi H locs ls hP hD hS hl
              refine lv_iload_n hx hb d_M_multiply_50 rfl (lv_at hl 0 rfl) ?_
              refine lv_bipush (v := (nI 60)) hx hb d_M_multiply_51 (by decide) ?_
              refine x_ge hx hb i 60 rfl rfl (by omega) (by omega) (tgt := 92) d_M_multiply_53 (by decide) (fun c21 => ?_) (fun c21 => ?_)
              · exact False.elim (by omega)
              · obtain ⟨w22, e_w22⟩ : ∃ zz : va_W, zz = (ws.set 8 (a.aL, aI G 60 (rI (ovb i 0 st.L (fun j => st.L 0 * st.T j % 97))))) := ⟨_, rfl⟩
                rw [← e_w22] at hP hD
                have h23 : w22[0]? = some (a.m, .inr (5, [.int (nI st.th), .ref a.aS, .ref a.aK, .ref a.aI, .int (nI st.ex), .ref a.aH, .ref a.aF, .ref a.aG, .int (nI st.va), .ref a.aR, .int (nI st.co), .ref a.aL, .ref a.aT, .ref a.aO, .ref a.aB, .ref a.aW, .int (nI st.sv), .int (nI st.kn), .int (nI st.kc)])) := by rw [e_w22]; exact w_ne (by decide) h1
                have h24 : w22[8]? = some (a.aL, aI G 60 (rI (ovb i 0 st.L (fun j => st.L 0 * st.T j % 97)))) := by rw [e_w22]; exact w_eq h2
                have h25 : w22[9]? = some (a.aT, aI G 60 (rI st.T)) := by rw [e_w22]; exact w_ne (by decide) h3
                refine lv_aload_n hx hb d_M_multiply_56 rfl (lv_at hl 3 rfl) ?_
                refine va_get (D := xD G) (ci := 5) (C := R_M) (T := F_M) (N := 19) hx hb ht in_M hown hK hP 0 h23 rfl 11 (by decide) (ht _ k_fl_M_35) (fun _ h9 => h9) rfl d_M_multiply_57 ?_
                refine lv_iload_n hx hb d_M_multiply_60 rfl (lv_at hl 0 rfl) ?_
                refine lv_iload_n hx hb d_M_multiply_61 rfl (lv_at hl 1 rfl) ?_
                refine lv_iload_n hx hb d_M_multiply_62 rfl (lv_at hl 2 rfl) ?_
                refine x_if_eq hx hb 1 rfl (by decide) (tgt := 75) d_M_multiply_63 (by decide) (fun c26 => ?_) (fun c26 => ?_)
                · exact False.elim (by omega)
                refine lv_aload_n hx hb d_M_multiply_66 rfl (lv_at hl 3 rfl) ?_
                refine va_get (D := xD G) (ci := 5) (C := R_M) (T := F_M) (N := 19) hx hb ht in_M hown hK hP 0 h23 rfl 12 (by decide) (ht _ k_fl_M_38) (fun _ h9 => h9) rfl d_M_multiply_67 ?_
                refine lv_iload_n hx hb d_M_multiply_70 rfl (lv_at hl 0 rfl) ?_
                refine x_iald hx hb hK hP h25 i rfl (by omega) (by omega) d_M_multiply_71 ?_
                refine x_top (nI (st.T i)) (rfl) ?_
                have z1 := bT i (by omega)
                have z2 : st.L 0 * st.T i ≤ 96 * 96 := Nat.mul_le_mul (by omega) (by omega)
                refine lv_goto (tgt := 81) hx hb d_M_multiply_72 (by decide) ?_
                refine lv_imul hx hb d_M_multiply_81 ?_
                refine x_top (nI ((st.L 0) * (st.T i))) (pk_mul _ _) ?_
                refine lv_bipush (v := (nI 97)) hx hb d_M_multiply_82 (by decide) ?_
                refine lv_irem hx hb d_M_multiply_84 (by decide) ?_
                refine x_top (nI (((st.L 0) * (st.T i)) % 97)) (pk_rem (by omega) (by omega) (by omega)) ?_
                refine x_iast hx hb hK hP hD hS h24 i rfl (by omega) (by omega) d_M_multiply_85 (fun H locs hP hD hS => ?_)
                have hP : va_P (xD G) CL (w22.set 8 (a.aL, aI G 60 (upd (rI (ovb i 0 st.L (fun j => st.L 0 * st.T j % 97))) i (nI (((st.L 0) * (st.T i)) % 97))))) H := hP
                have hD : va_D A (w22.set 8 (a.aL, aI G 60 (upd (rI (ovb i 0 st.L (fun j => st.L 0 * st.T j % 97))) i (nI (((st.L 0) * (st.T i)) % 97))))) := hD
                obtain ⟨w27, e_w27⟩ : ∃ zz : va_W, zz = w22.set 8 (a.aL, aI G 60 (upd (rI (ovb i 0 st.L (fun j => st.L 0 * st.T j % 97))) i (nI (((st.L 0) * (st.T i)) % 97)))) := ⟨_, rfl⟩
                rw [← e_w27] at hP hD
                have h28 : w27[8]? = some (a.aL, aI G 60 (upd (rI (ovb i 0 st.L (fun j => st.L 0 * st.T j % 97))) i (nI (((st.L 0) * (st.T i)) % 97)))) := by rw [e_w27]; exact w_eq h24
                have eN9 : w27 = (ws.set 8 (a.aL, aI G 60 (rI (ovb (i + 1) 0 st.L (fun j => st.L 0 * st.T j % 97))))) := by rw [e_w27, e_w22, List.set_set, up_rI]; exact congrArg (fun q9 => ws.set 8 (a.aL, aI G 60 (rI q9))) ovb_s0
                refine lv_iinc (v := nI (i + 1)) (lv' := [(3, .int (nI (i + 1))), (2, .int (nI (st.L 0))), (1, .int (nI 1)), (0, .ref a.m)]) hx hb d_M_multiply_86 hl (k := 0) rfl (n_inc _) (by decide) rfl (fun ls hl => ?_)
                refine lv_goto (tgt := 50) hx hb d_M_multiply_89 (by decide) ?_
                exact ih (i + 1) (by omega) H locs ls (by rw [← eN9]; exact hP) (by rw [← eN9]; exact hD) hS (lv_sub hl [0, 1, 2, 3] rfl)
          exact loop 60 0 (by omega) H locs ls hP hD hS (lv_sub hl [0, 1, 2, 3] rfl)
      · exact absurd k7 k12
    · exact False.elim (by omega)
  · have kl : ¬ lastV f 59 = 0 := fun q => k7 ((isK_c hL9).mpr q)
    refine x_if_ne hx hb 0 rfl (by omega) (tgt := 20) d_M_multiply_7 (by decide) (fun c29 => ?_) (fun c29 => ?_)
    · exact False.elim (by omega)
    · refine lv_aload_n hx hb d_M_multiply_10 rfl (lv_at hl 0 rfl) ?_
      refine va_get (D := xD G) (ci := 5) (C := R_M) (T := F_M) (N := 19) hx hb ht in_M hown hK hP 0 h1 rfl 12 (by decide) (ht _ k_fl_M_38) (fun _ h9 => h9) rfl d_M_multiply_11 ?_
      refine x_calli (va_runS (As := [.ref a.aT]) (rest := []) ⟨hx, hb, hml, hown, ht⟩ (c_M_constant l G A ws 9 a.aT st.T h3 bT) (va_cwS 1 ht (TW_S k_ml_M_68 k_st_M_constant k_in_M k_code_M_constant) rfl rfl rfl hv_M_constant.2 ⟨Nat.le_of_ble_eq_true rfl, Nat.le_of_ble_eq_true rfl⟩) ⟨x_blind, x_pre hE hA hS hP hD⟩ rfl rfl hl.1 rfl (lv_room (Nat.le_of_ble_eq_true rfl)) d_M_multiply_14 ⟨Nat.le_of_ble_eq_true rfl, Nat.le_of_ble_eq_true rfl⟩) hS (fun r32 w31 H locs q30 hP hD hS => ?_)
      obtain ⟨rfl, ⟨rfl, k33⟩ | ⟨rfl, k33⟩⟩ := q30
      · have kr := (isK_c hT9).mp k33
        refine x_if_eq hx hb 1 rfl (by omega) (tgt := 93) d_M_multiply_17 (by decide) (fun c34 => ?_) (fun c34 => ?_)
        · exact False.elim (by omega)
        · refine lv_aload_n hx hb d_M_multiply_20 rfl (lv_at hl 0 rfl) ?_
          refine va_get (D := xD G) (ci := 5) (C := R_M) (T := F_M) (N := 19) hx hb ht in_M hown hK hP 0 h1 rfl 11 (by decide) (ht _ k_fl_M_35) (fun _ h9 => h9) rfl d_M_multiply_21 ?_
          refine x_calli (va_runS (As := [.ref a.aL]) (rest := []) ⟨hx, hb, hml, hown, ht⟩ (c_M_constant l G A ws 8 a.aL st.L h2 bL) (va_cwS 1 ht (TW_S k_ml_M_68 k_st_M_constant k_in_M k_code_M_constant) rfl rfl rfl hv_M_constant.2 ⟨Nat.le_of_ble_eq_true rfl, Nat.le_of_ble_eq_true rfl⟩) ⟨x_blind, x_pre hE hA hS hP hD⟩ rfl rfl hl.1 rfl (lv_room (Nat.le_of_ble_eq_true rfl)) d_M_multiply_24 ⟨Nat.le_of_ble_eq_true rfl, Nat.le_of_ble_eq_true rfl⟩) hS (fun r37 w36 H locs q35 hP hD hS => ?_)
          obtain ⟨rfl, ⟨rfl, k38⟩ | ⟨rfl, k38⟩⟩ := q35
          · exact absurd k38 k7
          · refine lv_istore_n (lv' := [(1, .int (nI 0)), (0, .ref a.m)]) hx hb d_M_multiply_27 rfl hl (by decide) rfl (fun ls hl => ?_)
            refine lv_iload_n hx hb d_M_multiply_28 rfl (lv_at hl 0 rfl) ?_
            refine x_if_eq hx hb 0 rfl (by omega) (tgt := 41) d_M_multiply_29 (by decide) (fun c39 => ?_) (fun c39 => ?_)
            · refine lv_aload_n hx hb d_M_multiply_41 rfl (lv_at hl 1 rfl) ?_
              refine va_get (D := xD G) (ci := 5) (C := R_M) (T := F_M) (N := 19) hx hb ht in_M hown hK hP 0 h1 rfl 12 (by decide) (ht _ k_fl_M_38) (fun _ h9 => h9) rfl d_M_multiply_42 ?_
              refine lv_iconst (v := (nI 0)) hx hb d_M_multiply_45 (by decide) ?_
              refine x_iald hx hb hK hP h3 0 rfl (by decide) (by omega) d_M_multiply_46 ?_
              refine x_top (nI (st.T 0)) (rfl) ?_
              refine lv_istore_n (lv' := [(2, .int (nI (st.T 0))), (1, .int (nI 0)), (0, .ref a.m)]) hx hb d_M_multiply_47 rfl hl (by decide) rfl (fun ls hl => ?_)
              refine lv_iconst (v := (nI 0)) hx hb d_M_multiply_48 (by decide) ?_
              refine lv_istore_n (lv' := [(3, .int (nI 0)), (2, .int (nI (st.T 0))), (1, .int (nI 0)), (0, .ref a.m)]) hx hb d_M_multiply_49 rfl hl (by decide) rfl (fun ls hl => ?_)
              have z0 := bT 0 (by decide)
              have z9 : ws = (ws.set 8 (a.aL, aI G 60 (rI (ovb 0 0 st.L (fun j => st.T 0 * st.L j % 97))))) := by rw [ovb_0]; exact (w_self h2).symm
              rw [z9] at hP hD
              have loop : ∀ (n i : Nat), i + n = 60 → ∀ (H : Heap) (locs : List Loc) (ls : Array Slot), (va_P (xD G) CL (ws.set 8 (a.aL, aI G 60 (rI (ovb i 0 st.L (fun j => st.T 0 * st.L j % 97))))) H) → (va_D A (ws.set 8 (a.aL, aI G 60 (rI (ovb i 0 st.L (fun j => st.T 0 * st.L j % 97)))))) → (va_S A s.heap H locs) → lv_has ls 4 [(3, .int (nI i)), (2, .int (nI (st.T 0))), (1, .int (nI 0)), (0, .ref a.m)] → W p l e (headSpec (cw_M_multiply :: TW) { frames := 4, cells := 0, slots := 0, locals := 104 }).room s m ([.ref a.m] : List Value).toArray below meth c H locs 0 0 (MQ below (qV G A (fun w9 => ∃ st' : MS, w9 = mW G a st' ∧ MRel st' (prodS (V, K) f g).1.1 E (prodS (V, K) f g).1.2 inp w wV wC ∧ (∀ j, j < 60 → st'.L j = (prodS (V, K) f g).2 j) ∧ (∀ j, (prodS (V, K) f g).1.1.length ≤ j → j < 60 → (prodS (V, K) f g).2 j = 0) ∧ st'.th = st.th)) ([.ref a.m] : List Value).toArray s 0 0 A) (F0 m 50 ls []) := by
                intro n
                induction n with
                | zero =>
                  intro i hi H locs ls hP hD hS hl
                  refine lv_iload_n hx hb d_M_multiply_50 rfl (lv_at hl 0 rfl) ?_
                  refine lv_bipush (v := (nI 60)) hx hb d_M_multiply_51 (by decide) ?_
                  refine x_ge hx hb i 60 rfl rfl (by omega) (by omega) (tgt := 92) d_M_multiply_53 (by decide) (fun c40 => ?_) (fun c40 => ?_)
                  · have i0 : i = 60 := by omega
                    rw [i0] at hP hD
                    obtain ⟨w41, e_w41⟩ : ∃ zz : va_W, zz = (ws.set 8 (a.aL, aI G 60 (rI (ovb 60 0 st.L (fun j => st.T 0 * st.L j % 97))))) := ⟨_, rfl⟩
                    rw [← e_w41] at hP hD
                    have h42 : w41[0]? = some (a.m, .inr (5, [.int (nI st.th), .ref a.aS, .ref a.aK, .ref a.aI, .int (nI st.ex), .ref a.aH, .ref a.aF, .ref a.aG, .int (nI st.va), .ref a.aR, .int (nI st.co), .ref a.aL, .ref a.aT, .ref a.aO, .ref a.aB, .ref a.aW, .int (nI st.sv), .int (nI st.kn), .int (nI st.kc)])) := by rw [e_w41]; exact w_ne (by decide) h1
                    have h43 : w41[8]? = some (a.aL, aI G 60 (rI (ovb 60 0 st.L (fun j => st.T 0 * st.L j % 97)))) := by rw [e_w41]; exact w_eq h2
                    have h44 : w41[9]? = some (a.aT, aI G 60 (rI st.T)) := by rw [e_w41]; exact w_ne (by decide) h3
                    have E45 : w41 = mW G a (⟨st.th, st.ex, st.va, st.co, st.sv, st.kn, st.kc, st.S, st.Kd, st.In, st.Hw, st.Fr, st.Gn, st.R, (ovb 60 0 st.L (fun j => st.T 0 * st.L j % 97)), st.T, st.O, st.B, st.W⟩ : MS) := by rw [e_w41, hw]; rfl
                    have h46 : w41[0]? = some (a.m, .inr (5, [.int (nI st.th), .ref a.aS, .ref a.aK, .ref a.aI, .int (nI st.ex), .ref a.aH, .ref a.aF, .ref a.aG, .int (nI st.va), .ref a.aR, .int (nI st.co), .ref a.aL, .ref a.aT, .ref a.aO, .ref a.aB, .ref a.aW, .int (nI st.sv), .int (nI st.kn), .int (nI st.kc)])) := by rw [E45]; rfl
                    have e7 : prodS (V, K) f g = ((V, K), cmb (g 0) f 0 f) := by unfold prodS; rw [if_neg kl, if_pos kr]
                    have e8 : ∀ j, j < 60 → (ovb 60 0 st.L (fun j => st.T 0 * st.L j % 97)) j = cmb (g 0) f 0 f j := fun j hj => by rw [ovb_at hj]; show st.T 0 * st.L j % 97 = (g 0 * f j + 0 * f j) % 97; rw [hT9 0 (by decide), hL9 j hj, Nat.zero_mul, Nat.add_zero]
                    have e9 : ∀ j, V.length ≤ j → j < 60 → cmb (g 0) f 0 f j = 0 := fun j h1 hj => by simp [cmb, sf j h1 hj]
                    exact x_vret hx hb hr hlocks hS hP hD (Nat.le_of_ble_eq_true rfl) (Nat.le_of_ble_eq_true rfl) d_M_multiply_92 (⟨_, E45, by rw [e7]; exact hM, by rw [e7]; exact e8, by rw [e7]; exact e9, rfl⟩)
                  · exact False.elim (by omega)
                | succ n ih =>
                  intro i hi H locs ls hP hD hS hl
                  refine lv_iload_n hx hb d_M_multiply_50 rfl (lv_at hl 0 rfl) ?_
                  refine lv_bipush (v := (nI 60)) hx hb d_M_multiply_51 (by decide) ?_
                  refine x_ge hx hb i 60 rfl rfl (by omega) (by omega) (tgt := 92) d_M_multiply_53 (by decide) (fun c47 => ?_) (fun c47 => ?_)
                  · exact False.elim (by omega)
                  · obtain ⟨w48, e_w48⟩ : ∃ zz : va_W, zz = (ws.set 8 (a.aL, aI G 60 (rI (ovb i 0 st.L (fun j => st.T 0 * st.L j % 97))))) := ⟨_, rfl⟩
                    rw [← e_w48] at hP hD
                    have h49 : w48[0]? = some (a.m, .inr (5, [.int (nI st.th), .ref a.aS, .ref a.aK, .ref a.aI, .int (nI st.ex), .ref a.aH, .ref a.aF, .ref a.aG, .int (nI st.va), .ref a.aR, .int (nI st.co), .ref a.aL, .ref a.aT, .ref a.aO, .ref a.aB, .ref a.aW, .int (nI st.sv), .int (nI st.kn), .int (nI st.kc)])) := by rw [e_w48]; exact w_ne (by decide) h1
                    have h50 : w48[8]? = some (a.aL, aI G 60 (rI (ovb i 0 st.L (fun j => st.T 0 * st.L j % 97)))) := by rw [e_w48]; exact w_eq h2
                    have h51 : w48[9]? = some (a.aT, aI G 60 (rI st.T)) := by rw [e_w48]; exact w_ne (by decide) h3
                    refine lv_aload_n hx hb d_M_multiply_56 rfl (lv_at hl 3 rfl) ?_
                    refine va_get (D := xD G) (ci := 5) (C := R_M) (T := F_M) (N := 19) hx hb ht in_M hown hK hP 0 h49 rfl 11 (by decide) (ht _ k_fl_M_35) (fun _ h9 => h9) rfl d_M_multiply_57 ?_
                    refine lv_iload_n hx hb d_M_multiply_60 rfl (lv_at hl 0 rfl) ?_
                    refine lv_iload_n hx hb d_M_multiply_61 rfl (lv_at hl 1 rfl) ?_
                    refine lv_iload_n hx hb d_M_multiply_62 rfl (lv_at hl 2 rfl) ?_
                    refine x_if_eq hx hb 0 rfl (by decide) (tgt := 75) d_M_multiply_63 (by decide) (fun c52 => ?_) (fun c52 => ?_)
                    rotate_left
                    · exact False.elim (c52 rfl)
                    refine lv_aload_n hx hb d_M_multiply_75 rfl (lv_at hl 3 rfl) ?_
                    refine va_get (D := xD G) (ci := 5) (C := R_M) (T := F_M) (N := 19) hx hb ht in_M hown hK hP 0 h49 rfl 11 (by decide) (ht _ k_fl_M_35) (fun _ h9 => h9) rfl d_M_multiply_76 ?_
                    refine lv_iload_n hx hb d_M_multiply_79 rfl (lv_at hl 0 rfl) ?_
                    refine x_iald hx hb hK hP h50 i rfl (by omega) (by omega) d_M_multiply_80 ?_
                    refine x_top (nI (st.L i)) (by show nI (ovb i 0 st.L (fun j => st.T 0 * st.L j % 97) i) = _; rw [ovb_out (by omega)]) ?_
                    have z1 := bL i (by omega)
                    have z2 : st.T 0 * st.L i ≤ 96 * 96 := Nat.mul_le_mul (by omega) (by omega)
                    refine lv_imul hx hb d_M_multiply_81 ?_
                    refine x_top (nI ((st.T 0) * (st.L i))) (pk_mul _ _) ?_
                    refine lv_bipush (v := (nI 97)) hx hb d_M_multiply_82 (by decide) ?_
                    refine lv_irem hx hb d_M_multiply_84 (by decide) ?_
                    refine x_top (nI (((st.T 0) * (st.L i)) % 97)) (pk_rem (by omega) (by omega) (by omega)) ?_
                    refine x_iast hx hb hK hP hD hS h50 i rfl (by omega) (by omega) d_M_multiply_85 (fun H locs hP hD hS => ?_)
                    have hP : va_P (xD G) CL (w48.set 8 (a.aL, aI G 60 (upd (rI (ovb i 0 st.L (fun j => st.T 0 * st.L j % 97))) i (nI (((st.T 0) * (st.L i)) % 97))))) H := hP
                    have hD : va_D A (w48.set 8 (a.aL, aI G 60 (upd (rI (ovb i 0 st.L (fun j => st.T 0 * st.L j % 97))) i (nI (((st.T 0) * (st.L i)) % 97))))) := hD
                    obtain ⟨w53, e_w53⟩ : ∃ zz : va_W, zz = w48.set 8 (a.aL, aI G 60 (upd (rI (ovb i 0 st.L (fun j => st.T 0 * st.L j % 97))) i (nI (((st.T 0) * (st.L i)) % 97)))) := ⟨_, rfl⟩
                    rw [← e_w53] at hP hD
                    have h54 : w53[8]? = some (a.aL, aI G 60 (upd (rI (ovb i 0 st.L (fun j => st.T 0 * st.L j % 97))) i (nI (((st.T 0) * (st.L i)) % 97)))) := by rw [e_w53]; exact w_eq h50
                    have eN9 : w53 = (ws.set 8 (a.aL, aI G 60 (rI (ovb (i + 1) 0 st.L (fun j => st.T 0 * st.L j % 97))))) := by rw [e_w53, e_w48, List.set_set, up_rI]; exact congrArg (fun q9 => ws.set 8 (a.aL, aI G 60 (rI q9))) ovb_s0
                    refine lv_iinc (v := nI (i + 1)) (lv' := [(3, .int (nI (i + 1))), (2, .int (nI (st.T 0))), (1, .int (nI 0)), (0, .ref a.m)]) hx hb d_M_multiply_86 hl (k := 0) rfl (n_inc _) (by decide) rfl (fun ls hl => ?_)
                    refine lv_goto (tgt := 50) hx hb d_M_multiply_89 (by decide) ?_
                    exact ih (i + 1) (by omega) H locs ls (by rw [← eN9]; exact hP) (by rw [← eN9]; exact hD) hS (lv_sub hl [0, 1, 2, 3] rfl)
              exact loop 60 0 (by omega) H locs ls hP hD hS (lv_sub hl [0, 1, 2, 3] rfl)
            · exact False.elim (by omega)
      · have kr : ¬ lastV g 59 = 0 := fun q => k33 ((isK_c hT9).mpr q)
        refine x_if_eq hx hb 0 rfl (by omega) (tgt := 93) d_M_multiply_17 (by decide) (fun c55 => ?_) (fun c55 => ?_)
        · have c9 : cp f g = 1 := by unfold cp; rw [if_neg (fun q => q.elim kl kr)]
          rw [c9] at bV bK
          have hco := hM.1.1
          have hva := hM.2.1.1
          refine lv_aload_n hx hb d_M_multiply_93 rfl (lv_at hl 0 rfl) ?_
          refine va_get (D := xD G) (ci := 5) (C := R_M) (T := F_M) (N := 19) hx hb ht in_M hown hK hP 0 h1 rfl 10 (by decide) (ht _ k_fl_M_72) (fun _ h9 => h9) rfl d_M_multiply_94 ?_
          refine lv_istore_n (lv' := [(1, .int (nI st.co)), (0, .ref a.m)]) hx hb d_M_multiply_97 rfl hl (by decide) rfl (fun ls hl => ?_)
          refine lv_aload_n hx hb d_M_multiply_98 rfl (lv_at hl 1 rfl) ?_
          refine lv_dup hx hb d_M_multiply_99 rfl ?_
          refine va_get (D := xD G) (ci := 5) (C := R_M) (T := F_M) (N := 19) hx hb ht in_M hown hK hP 0 h1 rfl 10 (by decide) (ht _ k_fl_M_72) (fun _ h9 => h9) rfl d_M_multiply_100 ?_
          refine lv_iconst (v := (nI 1)) hx hb d_M_multiply_103 (by decide) ?_
          refine lv_iadd hx hb d_M_multiply_104 ?_
          refine x_top (nI (st.co + 1)) (nI_add _ _) ?_
          refine va_put (D := xD G) (ci := 5) (v := .int (nI (st.co + 1))) (ty := .int) (C := R_M) (T := F_M) (N := 19) hx hb ht in_M ft_M fo_M nm_M hown hK hP hD hS 0 h1 rfl 10 (by decide) (ht _ k_fl_M_72) (fun _ h9 => h9) rfl (by decide +kernel) rfl rfl (Nat.le_of_ble_eq_true rfl) d_M_multiply_105 (fun H locs hP hD hS => ?_)
          have hP : va_P (xD G) CL (ws.set 0 (a.m, .inr (5, [.int (nI st.th), .ref a.aS, .ref a.aK, .ref a.aI, .int (nI st.ex), .ref a.aH, .ref a.aF, .ref a.aG, .int (nI st.va), .ref a.aR, .int (nI (st.co + 1)), .ref a.aL, .ref a.aT, .ref a.aO, .ref a.aB, .ref a.aW, .int (nI st.sv), .int (nI st.kn), .int (nI st.kc)]))) H := hP
          have hD : va_D A (ws.set 0 (a.m, .inr (5, [.int (nI st.th), .ref a.aS, .ref a.aK, .ref a.aI, .int (nI st.ex), .ref a.aH, .ref a.aF, .ref a.aG, .int (nI st.va), .ref a.aR, .int (nI (st.co + 1)), .ref a.aL, .ref a.aT, .ref a.aO, .ref a.aB, .ref a.aW, .int (nI st.sv), .int (nI st.kn), .int (nI st.kc)]))) := hD
          obtain ⟨w56, e_w56⟩ : ∃ zz : va_W, zz = ws.set 0 (a.m, .inr (5, [.int (nI st.th), .ref a.aS, .ref a.aK, .ref a.aI, .int (nI st.ex), .ref a.aH, .ref a.aF, .ref a.aG, .int (nI st.va), .ref a.aR, .int (nI (st.co + 1)), .ref a.aL, .ref a.aT, .ref a.aO, .ref a.aB, .ref a.aW, .int (nI st.sv), .int (nI st.kn), .int (nI st.kc)])) := ⟨_, rfl⟩
          rw [← e_w56] at hP hD
          have h57 : w56[0]? = some (a.m, .inr (5, [.int (nI st.th), .ref a.aS, .ref a.aK, .ref a.aI, .int (nI st.ex), .ref a.aH, .ref a.aF, .ref a.aG, .int (nI st.va), .ref a.aR, .int (nI (st.co + 1)), .ref a.aL, .ref a.aT, .ref a.aO, .ref a.aB, .ref a.aW, .int (nI st.sv), .int (nI st.kn), .int (nI st.kc)])) := by rw [e_w56]; exact w_eq h1
          have E58 : w56 = mW G a (⟨st.th, st.ex, st.va, st.co + 1, st.sv, st.kn, st.kc, st.S, st.Kd, st.In, st.Hw, st.Fr, st.Gn, st.R, st.L, st.T, st.O, st.B, st.W⟩ : MS) := by rw [e_w56, hw]; rfl
          have h59 : w56[0]? = some (a.m, .inr (5, [.int (nI st.th), .ref a.aS, .ref a.aK, .ref a.aI, .int (nI st.ex), .ref a.aH, .ref a.aF, .ref a.aG, .int (nI st.va), .ref a.aR, .int (nI (st.co + 1)), .ref a.aL, .ref a.aT, .ref a.aO, .ref a.aB, .ref a.aW, .int (nI st.sv), .int (nI st.kn), .int (nI st.kc)])) := by rw [E58]; rfl
          have h60 : w56[8]? = some (a.aL, aI G 60 (rI st.L)) := by rw [E58]; rfl
          have h61 : w56[9]? = some (a.aT, aI G 60 (rI st.T)) := by rw [E58]; rfl
          refine lv_aload_n hx hb d_M_multiply_108 rfl (lv_at hl 1 rfl) ?_
          refine lv_iconst (v := (nI 1)) hx hb d_M_multiply_109 (by decide) ?_
          refine lv_iload_n hx hb d_M_multiply_110 rfl (lv_at hl 0 rfl) ?_
          refine x_calli (va_runV (As := [.int (nI 1), .int (nI st.co)]) (rest := []) ⟨hx, hb, hml, hown, ht⟩ (c_M_var l G A w56 a (⟨st.th, st.ex, st.va, st.co + 1, st.sv, st.kn, st.kc, st.S, st.Kd, st.In, st.Hw, st.Fr, st.Gn, st.R, st.L, st.T, st.O, st.B, st.W⟩ : MS) E58 (show st.va < 60 by omega) 1 st.co) (cwV 2 ht (TW_V k_ml_M_75 k_im_M_variable k_se_M_variable k_in_M k_code_M_variable) rfl rfl rfl hv_M_variable ⟨Nat.le_of_ble_eq_true rfl, Nat.le_of_ble_eq_true rfl⟩) ⟨x_blind, va_recv hK hP rfl h59, x_pre hE hA hS hP hD⟩ rfl rfl hl.1 rfl (lv_room (Nat.le_of_ble_eq_true rfl)) d_M_multiply_111 ⟨Nat.le_of_ble_eq_true rfl, Nat.le_of_ble_eq_true rfl⟩) hS (fun r64 w63 H locs q62 hP hD hS => ?_)
          obtain ⟨rfl, q62⟩ := q62
          have E65 : w63 = mW G a (⟨st.th, st.ex, (st.va + 1), st.co + 1, st.sv, st.kn, st.kc, st.S, st.Kd, st.In, (va_up st.Hw st.va 1), (va_up st.Fr st.va st.co), (va_up st.Gn st.va 0), st.R, st.L, st.T, st.O, st.B, st.W⟩ : MS) := q62
          have h66 : w63[0]? = some (a.m, .inr (5, [.int (nI st.th), .ref a.aS, .ref a.aK, .ref a.aI, .int (nI st.ex), .ref a.aH, .ref a.aF, .ref a.aG, .int (nI (st.va + 1)), .ref a.aR, .int (nI (st.co + 1)), .ref a.aL, .ref a.aT, .ref a.aO, .ref a.aB, .ref a.aW, .int (nI st.sv), .int (nI st.kn), .int (nI st.kc)])) := by rw [E65]; rfl
          have h67 : w63[8]? = some (a.aL, aI G 60 (rI st.L)) := by rw [E65]; rfl
          have h68 : w63[9]? = some (a.aT, aI G 60 (rI st.T)) := by rw [E65]; rfl
          refine lv_istore_n (lv' := [(2, .int (nI st.va)), (1, .int (nI st.co)), (0, .ref a.m)]) hx hb d_M_multiply_114 rfl hl (by decide) rfl (fun ls hl => ?_)
          refine lv_aload_n hx hb d_M_multiply_115 rfl (lv_at hl 2 rfl) ?_
          refine lv_iload_n hx hb d_M_multiply_116 rfl (lv_at hl 1 rfl) ?_
          refine lv_iconst (v := (nI 0)) hx hb d_M_multiply_117 (by decide) ?_
          refine lv_aload_n hx hb d_M_multiply_118 rfl (lv_at hl 2 rfl) ?_
          refine va_get (D := xD G) (ci := 5) (C := R_M) (T := F_M) (N := 19) hx hb ht in_M hown hK hP 0 h66 rfl 11 (by decide) (ht _ k_fl_M_35) (fun _ h9 => h9) rfl d_M_multiply_119 ?_
          refine x_callv (va_runV (As := [.int (nI st.co), .int (nI 0), .ref a.aL]) (rest := []) ⟨hx, hb, hml, hown, ht⟩ (c_M_keep l G A w63 a (⟨st.th, st.ex, (st.va + 1), st.co + 1, st.sv, st.kn, st.kc, st.S, st.Kd, st.In, (va_up st.Hw st.va 1), (va_up st.Fr st.va st.co), (va_up st.Gn st.va 0), st.R, st.L, st.T, st.O, st.B, st.W⟩ : MS) E65 8 a.aL st.L h67 (by decide) st.co 0 (by omega) (by decide)) (cwV 3 ht (TW_V k_ml_M_79 k_im_M_keep k_se_M_keep k_in_M k_code_M_keep) rfl rfl rfl hv_M_keep ⟨Nat.le_of_ble_eq_true rfl, Nat.le_of_ble_eq_true rfl⟩) ⟨x_blind, va_recv hK hP rfl h66, x_pre hE hA hS hP hD⟩ rfl rfl hl.1 rfl (lv_room (Nat.le_of_ble_eq_true rfl)) d_M_multiply_122 ⟨Nat.le_of_ble_eq_true rfl, Nat.le_of_ble_eq_true rfl⟩) hS (fun w70 H locs q69 hP hD hS => ?_)
          have E71 : w70 = mW G a (⟨st.th, st.ex, (st.va + 1), st.co + 1, st.sv, st.kn, st.kc, st.S, st.Kd, st.In, (va_up st.Hw st.va 1), (va_up st.Fr st.va st.co), (va_up st.Gn st.va 0), (ovb 60 (180 * st.co + 60 * 0) st.R st.L), st.L, st.T, st.O, st.B, st.W⟩ : MS) := by rw [q69, E65]; rfl
          have h72 : w70[0]? = some (a.m, .inr (5, [.int (nI st.th), .ref a.aS, .ref a.aK, .ref a.aI, .int (nI st.ex), .ref a.aH, .ref a.aF, .ref a.aG, .int (nI (st.va + 1)), .ref a.aR, .int (nI (st.co + 1)), .ref a.aL, .ref a.aT, .ref a.aO, .ref a.aB, .ref a.aW, .int (nI st.sv), .int (nI st.kn), .int (nI st.kc)])) := by rw [E71]; rfl
          have h73 : w70[8]? = some (a.aL, aI G 60 (rI st.L)) := by rw [E71]; rfl
          have h74 : w70[9]? = some (a.aT, aI G 60 (rI st.T)) := by rw [E71]; rfl
          refine lv_aload_n hx hb d_M_multiply_125 rfl (lv_at hl 2 rfl) ?_
          refine lv_iload_n hx hb d_M_multiply_126 rfl (lv_at hl 1 rfl) ?_
          refine lv_iconst (v := (nI 1)) hx hb d_M_multiply_127 (by decide) ?_
          refine lv_aload_n hx hb d_M_multiply_128 rfl (lv_at hl 2 rfl) ?_
          refine va_get (D := xD G) (ci := 5) (C := R_M) (T := F_M) (N := 19) hx hb ht in_M hown hK hP 0 h72 rfl 12 (by decide) (ht _ k_fl_M_38) (fun _ h9 => h9) rfl d_M_multiply_129 ?_
          refine x_callv (va_runV (As := [.int (nI st.co), .int (nI 1), .ref a.aT]) (rest := []) ⟨hx, hb, hml, hown, ht⟩ (c_M_keep l G A w70 a (⟨st.th, st.ex, (st.va + 1), st.co + 1, st.sv, st.kn, st.kc, st.S, st.Kd, st.In, (va_up st.Hw st.va 1), (va_up st.Fr st.va st.co), (va_up st.Gn st.va 0), (ovb 60 (180 * st.co + 60 * 0) st.R st.L), st.L, st.T, st.O, st.B, st.W⟩ : MS) E71 9 a.aT st.T h74 (by decide) st.co 1 (by omega) (by decide)) (cwV 3 ht (TW_V k_ml_M_79 k_im_M_keep k_se_M_keep k_in_M k_code_M_keep) rfl rfl rfl hv_M_keep ⟨Nat.le_of_ble_eq_true rfl, Nat.le_of_ble_eq_true rfl⟩) ⟨x_blind, va_recv hK hP rfl h72, x_pre hE hA hS hP hD⟩ rfl rfl hl.1 rfl (lv_room (Nat.le_of_ble_eq_true rfl)) d_M_multiply_132 ⟨Nat.le_of_ble_eq_true rfl, Nat.le_of_ble_eq_true rfl⟩) hS (fun w76 H locs q75 hP hD hS => ?_)
          have E77 : w76 = mW G a (⟨st.th, st.ex, (st.va + 1), st.co + 1, st.sv, st.kn, st.kc, st.S, st.Kd, st.In, (va_up st.Hw st.va 1), (va_up st.Fr st.va st.co), (va_up st.Gn st.va 0), (ovb 60 (180 * st.co + 60 * 1) (ovb 60 (180 * st.co + 60 * 0) st.R st.L) st.T), st.L, st.T, st.O, st.B, st.W⟩ : MS) := by rw [q75, E71]; rfl
          have h78 : w76[0]? = some (a.m, .inr (5, [.int (nI st.th), .ref a.aS, .ref a.aK, .ref a.aI, .int (nI st.ex), .ref a.aH, .ref a.aF, .ref a.aG, .int (nI (st.va + 1)), .ref a.aR, .int (nI (st.co + 1)), .ref a.aL, .ref a.aT, .ref a.aO, .ref a.aB, .ref a.aW, .int (nI st.sv), .int (nI st.kn), .int (nI st.kc)])) := by rw [E77]; rfl
          have h79 : w76[8]? = some (a.aL, aI G 60 (rI st.L)) := by rw [E77]; rfl
          have h80 : w76[9]? = some (a.aT, aI G 60 (rI st.T)) := by rw [E77]; rfl
          refine lv_aload_n hx hb d_M_multiply_135 rfl (lv_at hl 2 rfl) ?_
          refine va_get (D := xD G) (ci := 5) (C := R_M) (T := F_M) (N := 19) hx hb ht in_M hown hK hP 0 h78 rfl 11 (by decide) (ht _ k_fl_M_35) (fun _ h9 => h9) rfl d_M_multiply_136 ?_
          refine lv_iload_n hx hb d_M_multiply_139 rfl (lv_at hl 0 rfl) ?_
          refine x_callv (va_runS (As := [.ref a.aL, .int (nI st.va)]) (rest := []) ⟨hx, hb, hml, hown, ht⟩ (c_M_one l G A w76 8 a.aL st.L h79 st.va (by omega)) (va_cwS 2 ht (TW_S k_ml_M_83 k_st_M_one k_in_M k_code_M_one) rfl rfl rfl hv_M_one.2 ⟨Nat.le_of_ble_eq_true rfl, Nat.le_of_ble_eq_true rfl⟩) ⟨x_blind, x_pre hE hA hS hP hD⟩ rfl rfl hl.1 rfl (lv_room (Nat.le_of_ble_eq_true rfl)) d_M_multiply_140 ⟨Nat.le_of_ble_eq_true rfl, Nat.le_of_ble_eq_true rfl⟩) hS (fun w82 H locs q81 hP hD hS => ?_)
          have q81 : w82 = w76.set 8 (a.aL, aI G 60 (rI (ovb 60 0 st.L (unit st.va)))) := q81
          obtain ⟨u83, e_u83⟩ : ∃ zz : Nat → Nat, zz = ovb 60 0 st.L (unit st.va) := ⟨_, rfl⟩
          rw [← e_u83] at q81
          have h_u83 : ∀ j, j < 60 → u83 j = unit st.va j := fun j hj => by rw [e_u83, ovb_at hj]
          have E84 : w82 = mW G a (⟨st.th, st.ex, (st.va + 1), st.co + 1, st.sv, st.kn, st.kc, st.S, st.Kd, st.In, (va_up st.Hw st.va 1), (va_up st.Fr st.va st.co), (va_up st.Gn st.va 0), (ovb 60 (180 * st.co + 60 * 1) (ovb 60 (180 * st.co + 60 * 0) st.R st.L) st.T), u83, st.T, st.O, st.B, st.W⟩ : MS) := by rw [q81, E77]; rfl
          have h85 : w82[0]? = some (a.m, .inr (5, [.int (nI st.th), .ref a.aS, .ref a.aK, .ref a.aI, .int (nI st.ex), .ref a.aH, .ref a.aF, .ref a.aG, .int (nI (st.va + 1)), .ref a.aR, .int (nI (st.co + 1)), .ref a.aL, .ref a.aT, .ref a.aO, .ref a.aB, .ref a.aW, .int (nI st.sv), .int (nI st.kn), .int (nI st.kc)])) := by rw [E84]; rfl
          have h86 : w82[8]? = some (a.aL, aI G 60 (rI u83)) := by rw [E84]; rfl
          have h87 : w82[9]? = some (a.aT, aI G 60 (rI st.T)) := by rw [E84]; rfl
          refine lv_aload_n hx hb d_M_multiply_143 rfl (lv_at hl 2 rfl) ?_
          refine lv_iload_n hx hb d_M_multiply_144 rfl (lv_at hl 1 rfl) ?_
          refine lv_iconst (v := (nI 2)) hx hb d_M_multiply_145 (by decide) ?_
          refine lv_aload_n hx hb d_M_multiply_146 rfl (lv_at hl 2 rfl) ?_
          refine va_get (D := xD G) (ci := 5) (C := R_M) (T := F_M) (N := 19) hx hb ht in_M hown hK hP 0 h85 rfl 11 (by decide) (ht _ k_fl_M_35) (fun _ h9 => h9) rfl d_M_multiply_147 ?_
          refine x_callv (va_runV (As := [.int (nI st.co), .int (nI 2), .ref a.aL]) (rest := []) ⟨hx, hb, hml, hown, ht⟩ (c_M_keep l G A w82 a (⟨st.th, st.ex, (st.va + 1), st.co + 1, st.sv, st.kn, st.kc, st.S, st.Kd, st.In, (va_up st.Hw st.va 1), (va_up st.Fr st.va st.co), (va_up st.Gn st.va 0), (ovb 60 (180 * st.co + 60 * 1) (ovb 60 (180 * st.co + 60 * 0) st.R st.L) st.T), u83, st.T, st.O, st.B, st.W⟩ : MS) E84 8 a.aL u83 h86 (by decide) st.co 2 (by omega) (by decide)) (cwV 3 ht (TW_V k_ml_M_79 k_im_M_keep k_se_M_keep k_in_M k_code_M_keep) rfl rfl rfl hv_M_keep ⟨Nat.le_of_ble_eq_true rfl, Nat.le_of_ble_eq_true rfl⟩) ⟨x_blind, va_recv hK hP rfl h85, x_pre hE hA hS hP hD⟩ rfl rfl hl.1 rfl (lv_room (Nat.le_of_ble_eq_true rfl)) d_M_multiply_150 ⟨Nat.le_of_ble_eq_true rfl, Nat.le_of_ble_eq_true rfl⟩) hS (fun w89 H locs q88 hP hD hS => ?_)
          have E90 : w89 = mW G a (⟨st.th, st.ex, (st.va + 1), st.co + 1, st.sv, st.kn, st.kc, st.S, st.Kd, st.In, (va_up st.Hw st.va 1), (va_up st.Fr st.va st.co), (va_up st.Gn st.va 0), (ovb 60 (180 * st.co + 60 * 2) (ovb 60 (180 * st.co + 60 * 1) (ovb 60 (180 * st.co + 60 * 0) st.R st.L) st.T) u83), u83, st.T, st.O, st.B, st.W⟩ : MS) := by rw [q88, E84]; rfl
          have h91 : w89[0]? = some (a.m, .inr (5, [.int (nI st.th), .ref a.aS, .ref a.aK, .ref a.aI, .int (nI st.ex), .ref a.aH, .ref a.aF, .ref a.aG, .int (nI (st.va + 1)), .ref a.aR, .int (nI (st.co + 1)), .ref a.aL, .ref a.aT, .ref a.aO, .ref a.aB, .ref a.aW, .int (nI st.sv), .int (nI st.kn), .int (nI st.kc)])) := by rw [E90]; rfl
          have h92 : w89[8]? = some (a.aL, aI G 60 (rI u83)) := by rw [E90]; rfl
          have h93 : w89[9]? = some (a.aT, aI G 60 (rI st.T)) := by rw [E90]; rfl
          have e7 : prodS (V, K) f g = ((V ++ [(2, f, g, 0)], K ++ [(f, g, unit V.length)]), unit V.length) := by unfold prodS; rw [if_neg kl, if_neg kr]
          have hp := MRel.prod (R2 := (ovb 60 (180 * st.co + 60 * 2) (ovb 60 (180 * st.co + 60 * 1) (ovb 60 (180 * st.co + 60 * 0) st.R st.L) st.T) u83)) (L := st.L) (T := st.T) hM bf bg sf sg (fun c t j hc ht9 hj => by rw [ovb_out (by omega), ovb_out (by omega), ovb_out (by omega)]) (fun j hj => by unfold ovb; rw [if_neg (by omega), if_neg (by omega), if_pos (by omega), show 180 * K.length + j - (180 * st.co + 60 * 0) = j by omega]; exact hL9 j hj) (fun j hj => by unfold ovb; rw [if_neg (by omega), if_pos (by omega), show 180 * K.length + 60 + j - (180 * st.co + 60 * 1) = j by omega]; exact hT9 j hj) (fun j hj => by rw [← hva]; unfold ovb; rw [if_pos (by omega), show 180 * K.length + 120 + j - (180 * st.co + 60 * 2) = j by omega]; exact h_u83 j hj) (by omega)
          have ln : (V ++ [((2 : Nat), f, g, (0 : Nat))]).length = V.length + 1 := by simp
          have rel : MRel (⟨st.th, st.ex, (st.va + 1), st.co + 1, st.sv, st.kn, st.kc, st.S, st.Kd, st.In, (va_up st.Hw st.va 1), (va_up st.Fr st.va st.co), (va_up st.Gn st.va 0), (ovb 60 (180 * st.co + 60 * 2) (ovb 60 (180 * st.co + 60 * 1) (ovb 60 (180 * st.co + 60 * 0) st.R st.L) st.T) u83), u83, st.T, st.O, st.B, st.W⟩ : MS) (V ++ [(2, f, g, 0)]) E (K ++ [(f, g, unit V.length)]) inp w wV wC := ⟨by rw [ln]; exact hp.1, hp.2, by rw [ln]; exact hM.2.2.1.mono (by omega), hM.2.2.2.mono⟩
          have e9 : ∀ j, (V ++ [((2 : Nat), f, g, (0 : Nat))]).length ≤ j → j < 60 → unit V.length j = 0 := fun j h1 hj => by rw [ln] at h1; unfold unit; rw [if_neg (by omega)]
          exact x_vret hx hb hr hlocks hS hP hD (Nat.le_of_ble_eq_true rfl) (Nat.le_of_ble_eq_true rfl) d_M_multiply_153 (⟨_, E90, by rw [e7]; exact rel, by rw [e7]; intro j hj; rw [← hva]; exact h_u83 j hj, by rw [e7]; exact e9, rfl⟩)
        · exact False.elim (by omega)
