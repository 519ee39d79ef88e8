theorem ovb_hit {n b i j : Nat} {f g : Nat → Nat} (h : i = b + j) (hj : j < n) : ovb n b f g i = g j := by subst h; exact ovb_in hj
theorem unit_0 {v j : Nat} (h : j ≠ v) : unit v j = 0 := by unfold unit; rw [if_neg h]
theorem nmb1 (j : Nat) : nmb (rm (nI 1)) j = unit 0 j := by
  unfold nmb unit
  split
  · decide
  · rfl
theorem nmb0 (j : Nat) : nmb (rm (nI 0)) j = zr j := by
  unfold nmb zr
  split
  · decide
  · rfl

set_option maxHeartbeats 4000000 in
set_option maxRecDepth 100000 in
theorem c_M_share (l : Launch) (G : xG) (A : Nat → Prop) (ws : va_W) (a : MA) (st : MS) (hw : ws = mW G a st) (V : List VV) (E : List EE) (K : List KK) (inp : Nat) (w : Nat → Nat) (wV wC : Nat) (hM : MRel st V E K inp w wV wC) (ja jb : Nat) (ga : ja < E.length) (gb : jb < E.length) (bE : E.length ≤ 60) (bV : V.length + 2 ≤ 60) (bK : K.length + 2 ≤ 80) : Met l y_M_share (cw_M_share :: TW) { frames := 4, cells := 0, slots := 0, locals := 104 } (va_Pc [.ref a.m, .int (nI ja), .int (nI jb)] (x_P G A ws)) (qV G A (fun w9 => ∃ st' : MS, w9 = mW G a st' ∧ MRel st' (shareS (V, K) (sE E ja) (sE E jb)).1.1 E (shareS (V, K) (sE E ja) (sE E jb)).1.2 inp w wV wC ∧ (∀ j, j < 60 → st'.L j = (shareS (V, K) (sE E ja) (sE E jb)).2 j) ∧ (∀ j, (shareS (V, K) (sE E ja) (sE E jb)).1.1.length ≤ j → j < 60 → (shareS (V, K) (sE E ja) (sE E jb)).2 j = 0) ∧ st'.th = st.th)) 0 0 A := by
  refine Met.ofW (cc := b_M_share) (maxL := 6) (ret := none) (by decide) rfl ?_
  intro p e s m args below meth c s₁ B hml hv
  obtain ⟨rfl, hE, hA, hP, hD⟩ := hv
  have hx := B.exec
  have hb := B.bytes
  have hr := B.returns
  have ht : ∀ w ∈ TW, w.before _ s = true := fun w h => atoms_spec (ws := cw_M_share :: TW) B.pre w (List.mem_cons_of_mem _ h)
  have hown : s.vm.findClass R_M = some m.cls := findClass_of_methodNamed B.named
  have hlocks := B.notSynchronized
  have hK := hE.1
  have hS : va_S A s.heap s.heap [] := va_S.rf
  have hl := lv_entry ([.ref a.m, .int (nI ja), .int (nI jb)]) (n := 6) (Nat.le_of_ble_eq_true rfl)
  rw [lg_entry_eq]
  generalize (lg_sl ([.ref a.m, .int (nI ja), .int (nI jb)]) ++ List.replicate (6 - (lg_sl ([.ref a.m, .int (nI ja), .int (nI jb)])).length) Slot.unset).toArray = ls at hl ⊢
  have hl : lv_has ls 6 [(0, .ref a.m), (1, .int (nI ja)), (2, .int (nI jb))] := hl
  have hco := hM.1.1
  have hva := hM.2.1.1
  have hex := hM.2.2.1.1
  have hS9 : ∀ e9 j, e9 < E.length → j < 60 → st.S (60 * e9 + j) = sE E e9 j := fun e9 j h1 h2 => (hM.2.2.1.2.1 e9 j h1 h2).1
  have hS8 : ∀ e9 j, e9 < E.length → j < 60 → sE E e9 j < 97 := fun e9 j h1 h2 => (hM.2.2.1.2.1 e9 j h1 h2).2.1
  have hS6 : ∀ e9, e9 < E.length → ∀ j, j < 60 → st.S (60 * e9 + j) < 97 := fun e9 h1 j h2 => by rw [hS9 e9 j h1 h2]; exact hS8 e9 j h1 h2
  have hS7 : ∀ e9 j, e9 < E.length → V.length ≤ j → j < 60 → sE E e9 j = 0 := fun e9 j h1 h3 h2 => (hM.2.2.1.2.1 e9 j h1 h2).2.2 h3
  have h1 : ws[0]? = some (a.m, .inr (5, [.int (nI st.th), .ref a.aS, .ref a.aK, .ref a.aI, .int (nI st.ex), .ref a.aH, .ref a.aF, .ref a.aG, .int (nI st.va), .ref a.aR, .int (nI st.co), .ref a.aL, .ref a.aT, .ref a.aO, .ref a.aB, .ref a.aW, .int (nI st.sv), .int (nI st.kn), .int (nI st.kc)])) := by rw [hw]; rfl
  have h2 : ws[8]? = some (a.aL, aI G 60 (rI st.L)) := by rw [hw]; rfl
  have h3 : ws[10]? = some (a.aO, aI G 60 (rI st.O)) := by rw [hw]; rfl
  refine lv_aload_n hx hb d_M_share_0 rfl (lv_at hl 0 rfl) ?_
  refine va_get (D := xD G) (ci := 5) (C := R_M) (T := F_M) (N := 19) hx hb ht in_M hown hK hP 0 h1 rfl 10 (by decide) (ht _ k_fl_M_72) (fun _ h9 => h9) rfl d_M_share_1 ?_
  refine lv_istore_n (lv' := [(3, .int (nI st.co)), (0, .ref a.m), (1, .int (nI ja)), (2, .int (nI jb))]) hx hb d_M_share_4 rfl hl (by decide) rfl (fun ls hl => ?_)
  refine lv_aload_n hx hb d_M_share_5 rfl (lv_at hl 1 rfl) ?_
  refine lv_dup hx hb d_M_share_6 rfl ?_
  refine va_get (D := xD G) (ci := 5) (C := R_M) (T := F_M) (N := 19) hx hb ht in_M hown hK hP 0 h1 rfl 10 (by decide) (ht _ k_fl_M_72) (fun _ h9 => h9) rfl d_M_share_7 ?_
  refine lv_iconst (v := (nI 2)) hx hb d_M_share_10 (by decide) ?_
  refine lv_iadd hx hb d_M_share_11 ?_
  refine x_top (nI (st.co + 2)) (nI_add _ _) ?_
  refine va_put (D := xD G) (ci := 5) (v := .int (nI (st.co + 2))) (ty := .int) (C := R_M) (T := F_M) (N := 19) hx hb ht in_M ft_M fo_M nm_M hown hK hP hD hS 0 h1 rfl 10 (by decide) (ht _ k_fl_M_72) (fun _ h9 => h9) rfl (by decide +kernel) rfl rfl (Nat.le_of_ble_eq_true rfl) d_M_share_12 (fun H locs hP hD hS => ?_)
  have hP : va_P (xD G) CL (ws.set 0 (a.m, .inr (5, [.int (nI st.th), .ref a.aS, .ref a.aK, .ref a.aI, .int (nI st.ex), .ref a.aH, .ref a.aF, .ref a.aG, .int (nI st.va), .ref a.aR, .int (nI (st.co + 2)), .ref a.aL, .ref a.aT, .ref a.aO, .ref a.aB, .ref a.aW, .int (nI st.sv), .int (nI st.kn), .int (nI st.kc)]))) H := hP
  have hD : va_D A (ws.set 0 (a.m, .inr (5, [.int (nI st.th), .ref a.aS, .ref a.aK, .ref a.aI, .int (nI st.ex), .ref a.aH, .ref a.aF, .ref a.aG, .int (nI st.va), .ref a.aR, .int (nI (st.co + 2)), .ref a.aL, .ref a.aT, .ref a.aO, .ref a.aB, .ref a.aW, .int (nI st.sv), .int (nI st.kn), .int (nI st.kc)]))) := hD
  obtain ⟨w4, e_w4⟩ : ∃ zz : va_W, zz = ws.set 0 (a.m, .inr (5, [.int (nI st.th), .ref a.aS, .ref a.aK, .ref a.aI, .int (nI st.ex), .ref a.aH, .ref a.aF, .ref a.aG, .int (nI st.va), .ref a.aR, .int (nI (st.co + 2)), .ref a.aL, .ref a.aT, .ref a.aO, .ref a.aB, .ref a.aW, .int (nI st.sv), .int (nI st.kn), .int (nI st.kc)])) := ⟨_, rfl⟩
  rw [← e_w4] at hP hD
  have h5 : w4[0]? = some (a.m, .inr (5, [.int (nI st.th), .ref a.aS, .ref a.aK, .ref a.aI, .int (nI st.ex), .ref a.aH, .ref a.aF, .ref a.aG, .int (nI st.va), .ref a.aR, .int (nI (st.co + 2)), .ref a.aL, .ref a.aT, .ref a.aO, .ref a.aB, .ref a.aW, .int (nI st.sv), .int (nI st.kn), .int (nI st.kc)])) := by rw [e_w4]; exact w_eq h1
  have E6 : w4 = mW G a (⟨st.th, st.ex, st.va, st.co + 2, st.sv, st.kn, st.kc, st.S, st.Kd, st.In, st.Hw, st.Fr, st.Gn, st.R, st.L, st.T, st.O, st.B, st.W⟩ : MS) := by rw [e_w4, hw]; rfl
  have h7 : w4[0]? = some (a.m, .inr (5, [.int (nI st.th), .ref a.aS, .ref a.aK, .ref a.aI, .int (nI st.ex), .ref a.aH, .ref a.aF, .ref a.aG, .int (nI st.va), .ref a.aR, .int (nI (st.co + 2)), .ref a.aL, .ref a.aT, .ref a.aO, .ref a.aB, .ref a.aW, .int (nI st.sv), .int (nI st.kn), .int (nI st.kc)])) := by rw [E6]; rfl
  have h8 : w4[8]? = some (a.aL, aI G 60 (rI st.L)) := by rw [E6]; rfl
  have h9 : w4[10]? = some (a.aO, aI G 60 (rI st.O)) := by rw [E6]; rfl
  refine lv_aload_n hx hb d_M_share_15 rfl (lv_at hl 1 rfl) ?_
  refine lv_iconst (v := (nI 2)) hx hb d_M_share_16 (by decide) ?_
  refine lv_iload_n hx hb d_M_share_17 rfl (lv_at hl 0 rfl) ?_
  refine x_calli (va_runV (As := [.int (nI 2), .int (nI st.co)]) (rest := []) ⟨hx, hb, hml, hown, ht⟩ (c_M_var l G A w4 a (⟨st.th, st.ex, st.va, st.co + 2, st.sv, st.kn, st.kc, st.S, st.Kd, st.In, st.Hw, st.Fr, st.Gn, st.R, st.L, st.T, st.O, st.B, st.W⟩ : MS) E6 (show st.va < 60 by omega) 2 st.co) (cwV 2 ht (TW_V k_ml_M_75 k_im_M_variable k_se_M_variable k_in_M k_code_M_variable) rfl rfl rfl hv_M_variable ⟨Nat.le_of_ble_eq_true rfl, Nat.le_of_ble_eq_true rfl⟩) ⟨x_blind, va_recv hK hP rfl h7, x_pre hE hA hS hP hD⟩ rfl rfl hl.1 rfl (lv_room (Nat.le_of_ble_eq_true rfl)) d_M_share_18 ⟨Nat.le_of_ble_eq_true rfl, Nat.le_of_ble_eq_true rfl⟩) hS (fun r12 w11 H locs q10 hP hD hS => ?_)
  obtain ⟨rfl, q10⟩ := q10
  have E13 : w11 = mW G a (⟨st.th, st.ex, (st.va + 1), st.co + 2, st.sv, st.kn, st.kc, st.S, st.Kd, st.In, (va_up st.Hw st.va 2), (va_up st.Fr st.va st.co), (va_up st.Gn st.va 0), st.R, st.L, st.T, st.O, st.B, st.W⟩ : MS) := q10
  have h14 : w11[0]? = some (a.m, .inr (5, [.int (nI st.th), .ref a.aS, .ref a.aK, .ref a.aI, .int (nI st.ex), .ref a.aH, .ref a.aF, .ref a.aG, .int (nI (st.va + 1)), .ref a.aR, .int (nI (st.co + 2)), .ref a.aL, .ref a.aT, .ref a.aO, .ref a.aB, .ref a.aW, .int (nI st.sv), .int (nI st.kn), .int (nI st.kc)])) := by rw [E13]; rfl
  have h15 : w11[8]? = some (a.aL, aI G 60 (rI st.L)) := by rw [E13]; rfl
  have h16 : w11[10]? = some (a.aO, aI G 60 (rI st.O)) := by rw [E13]; rfl
  refine lv_istore (lv' := [(4, .int (nI st.va)), (3, .int (nI st.co)), (0, .ref a.m), (1, .int (nI ja)), (2, .int (nI jb))]) hx hb d_M_share_21 hl (by decide) rfl (fun ls hl => ?_)
  refine lv_aload_n hx hb d_M_share_23 rfl (lv_at hl 2 rfl) ?_
  refine lv_iconst (v := (nI 1)) hx hb d_M_share_24 (by decide) ?_
  refine lv_iload_n hx hb d_M_share_25 rfl (lv_at hl 1 rfl) ?_
  refine lv_iconst (v := (nI 1)) hx hb d_M_share_26 (by decide) ?_
  refine lv_iadd hx hb d_M_share_27 ?_
  refine x_top (nI (st.co + 1)) (nI_add _ _) ?_
  refine x_calli (va_runV (As := [.int (nI 1), .int (nI (st.co + 1))]) (rest := []) ⟨hx, hb, hml, hown, ht⟩ (c_M_var l G A w11 a (⟨st.th, st.ex, (st.va + 1), st.co + 2, st.sv, st.kn, st.kc, st.S, st.Kd, st.In, (va_up st.Hw st.va 2), (va_up st.Fr st.va st.co), (va_up st.Gn st.va 0), st.R, st.L, st.T, st.O, st.B, st.W⟩ : MS) E13 (show (st.va + 1) < 60 by omega) 1 (st.co + 1)) (cwV 2 ht (TW_V k_ml_M_75 k_im_M_variable k_se_M_variable k_in_M k_code_M_variable) rfl rfl rfl hv_M_variable ⟨Nat.le_of_ble_eq_true rfl, Nat.le_of_ble_eq_true rfl⟩) ⟨x_blind, va_recv hK hP rfl h14, x_pre hE hA hS hP hD⟩ rfl rfl hl.1 rfl (lv_room (Nat.le_of_ble_eq_true rfl)) d_M_share_28 ⟨Nat.le_of_ble_eq_true rfl, Nat.le_of_ble_eq_true rfl⟩) hS (fun r19 w18 H locs q17 hP hD hS => ?_)
  obtain ⟨rfl, q17⟩ := q17
  have E20 : w18 = mW G a (⟨st.th, st.ex, ((st.va + 1) + 1), st.co + 2, st.sv, st.kn, st.kc, st.S, st.Kd, st.In, (va_up (va_up st.Hw st.va 2) (st.va + 1) 1), (va_up (va_up st.Fr st.va st.co) (st.va + 1) (st.co + 1)), (va_up (va_up st.Gn st.va 0) (st.va + 1) 0), st.R, st.L, st.T, st.O, st.B, st.W⟩ : MS) := q17
  have h21 : w18[0]? = some (a.m, .inr (5, [.int (nI st.th), .ref a.aS, .ref a.aK, .ref a.aI, .int (nI st.ex), .ref a.aH, .ref a.aF, .ref a.aG, .int (nI ((st.va + 1) + 1)), .ref a.aR, .int (nI (st.co + 2)), .ref a.aL, .ref a.aT, .ref a.aO, .ref a.aB, .ref a.aW, .int (nI st.sv), .int (nI st.kn), .int (nI st.kc)])) := by rw [E20]; rfl
  have h22 : w18[8]? = some (a.aL, aI G 60 (rI st.L)) := by rw [E20]; rfl
  have h23 : w18[10]? = some (a.aO, aI G 60 (rI st.O)) := by rw [E20]; rfl
  refine lv_istore (lv' := [(5, .int (nI (st.va + 1))), (4, .int (nI st.va)), (3, .int (nI st.co)), (0, .ref a.m), (1, .int (nI ja)), (2, .int (nI jb))]) hx hb d_M_share_31 hl (by decide) rfl (fun ls hl => ?_)
  refine lv_aload_n hx hb d_M_share_33 rfl (lv_at hl 3 rfl) ?_
  refine lv_aload_n hx hb d_M_share_34 rfl (lv_at hl 3 rfl) ?_
  refine va_get (D := xD G) (ci := 5) (C := R_M) (T := F_M) (N := 19) hx hb ht in_M hown hK hP 0 h21 rfl 13 (by decide) (ht _ k_fl_M_41) (fun _ h9 => h9) rfl d_M_share_35 ?_
  refine lv_iload_n hx hb d_M_share_38 rfl (lv_at hl 5 rfl) ?_
  refine x_callv (va_runV (As := [.ref a.aO, .int (nI jb)]) (rest := []) ⟨hx, hb, hml, hown, ht⟩ (c_M_fetch l G A w18 a (⟨st.th, st.ex, ((st.va + 1) + 1), st.co + 2, st.sv, st.kn, st.kc, st.S, st.Kd, st.In, (va_up (va_up st.Hw st.va 2) (st.va + 1) 1), (va_up (va_up st.Fr st.va st.co) (st.va + 1) (st.co + 1)), (va_up (va_up st.Gn st.va 0) (st.va + 1) 0), st.R, st.L, st.T, st.O, st.B, st.W⟩ : MS) E20 10 a.aO st.O h23 (by decide) jb (by omega)) (cwV 2 ht (TW_V k_ml_M_100 k_im_M_fetch k_se_M_fetch k_in_M k_code_M_fetch) rfl rfl rfl hv_M_fetch ⟨Nat.le_of_ble_eq_true rfl, Nat.le_of_ble_eq_true rfl⟩) ⟨x_blind, va_recv hK hP rfl h21, x_pre hE hA hS hP hD⟩ rfl rfl hl.1 rfl (lv_room (Nat.le_of_ble_eq_true rfl)) d_M_share_39 ⟨Nat.le_of_ble_eq_true rfl, Nat.le_of_ble_eq_true rfl⟩) hS (fun w25 H locs q24 hP hD hS => ?_)
  have q24 : w25 = w18.set 10 (a.aO, aI G 60 (rI (ovb 60 0 st.O (fun j => st.S (60 * jb + j))))) := q24
  obtain ⟨u26, e_u26⟩ : ∃ zz : Nat → Nat, zz = ovb 60 0 st.O (fun j => st.S (60 * jb + j)) := ⟨_, rfl⟩
  rw [← e_u26] at q24
  have h_u26 : ∀ j, j < 60 → u26 j = sE E jb j := fun j hj => by rw [e_u26, ovb_at hj]; exact hS9 jb j gb hj
  have E27 : w25 = mW G a (⟨st.th, st.ex, ((st.va + 1) + 1), st.co + 2, st.sv, st.kn, st.kc, st.S, st.Kd, st.In, (va_up (va_up st.Hw st.va 2) (st.va + 1) 1), (va_up (va_up st.Fr st.va st.co) (st.va + 1) (st.co + 1)), (va_up (va_up st.Gn st.va 0) (st.va + 1) 0), st.R, st.L, st.T, u26, st.B, st.W⟩ : MS) := by rw [q24, E20]; rfl
  have h28 : w25[0]? = some (a.m, .inr (5, [.int (nI st.th), .ref a.aS, .ref a.aK, .ref a.aI, .int (nI st.ex), .ref a.aH, .ref a.aF, .ref a.aG, .int (nI ((st.va + 1) + 1)), .ref a.aR, .int (nI (st.co + 2)), .ref a.aL, .ref a.aT, .ref a.aO, .ref a.aB, .ref a.aW, .int (nI st.sv), .int (nI st.kn), .int (nI st.kc)])) := by rw [E27]; rfl
  have h29 : w25[8]? = some (a.aL, aI G 60 (rI st.L)) := by rw [E27]; rfl
  have h30 : w25[10]? = some (a.aO, aI G 60 (rI u26)) := by rw [E27]; rfl
  refine lv_aload_n hx hb d_M_share_42 rfl (lv_at hl 3 rfl) ?_
  refine lv_iload_n hx hb d_M_share_43 rfl (lv_at hl 2 rfl) ?_
  refine lv_iconst (v := (nI 0)) hx hb d_M_share_44 (by decide) ?_
  refine lv_aload_n hx hb d_M_share_45 rfl (lv_at hl 3 rfl) ?_
  refine va_get (D := xD G) (ci := 5) (C := R_M) (T := F_M) (N := 19) hx hb ht in_M hown hK hP 0 h28 rfl 13 (by decide) (ht _ k_fl_M_41) (fun _ h9 => h9) rfl d_M_share_46 ?_
  refine x_callv (va_runV (As := [.int (nI st.co), .int (nI 0), .ref a.aO]) (rest := []) ⟨hx, hb, hml, hown, ht⟩ (c_M_keep l G A w25 a (⟨st.th, st.ex, ((st.va + 1) + 1), st.co + 2, st.sv, st.kn, st.kc, st.S, st.Kd, st.In, (va_up (va_up st.Hw st.va 2) (st.va + 1) 1), (va_up (va_up st.Fr st.va st.co) (st.va + 1) (st.co + 1)), (va_up (va_up st.Gn st.va 0) (st.va + 1) 0), st.R, st.L, st.T, u26, st.B, st.W⟩ : MS) E27 10 a.aO u26 h30 (by decide) st.co 0 (by omega) (by decide)) (cwV 3 ht (TW_V k_ml_M_79 k_im_M_keep k_se_M_keep k_in_M k_code_M_keep) rfl rfl rfl hv_M_keep ⟨Nat.le_of_ble_eq_true rfl, Nat.le_of_ble_eq_true rfl⟩) ⟨x_blind, va_recv hK hP rfl h28, x_pre hE hA hS hP hD⟩ rfl rfl hl.1 rfl (lv_room (Nat.le_of_ble_eq_true rfl)) d_M_share_49 ⟨Nat.le_of_ble_eq_true rfl, Nat.le_of_ble_eq_true rfl⟩) hS (fun w32 H locs q31 hP hD hS => ?_)
  have E33 : w32 = mW G a (⟨st.th, st.ex, ((st.va + 1) + 1), st.co + 2, st.sv, st.kn, st.kc, st.S, st.Kd, st.In, (va_up (va_up st.Hw st.va 2) (st.va + 1) 1), (va_up (va_up st.Fr st.va st.co) (st.va + 1) (st.co + 1)), (va_up (va_up st.Gn st.va 0) (st.va + 1) 0), (ovb 60 (180 * st.co + 60 * 0) st.R u26), st.L, st.T, u26, st.B, st.W⟩ : MS) := by rw [q31, E27]; rfl
  have h34 : w32[0]? = some (a.m, .inr (5, [.int (nI st.th), .ref a.aS, .ref a.aK, .ref a.aI, .int (nI st.ex), .ref a.aH, .ref a.aF, .ref a.aG, .int (nI ((st.va + 1) + 1)), .ref a.aR, .int (nI (st.co + 2)), .ref a.aL, .ref a.aT, .ref a.aO, .ref a.aB, .ref a.aW, .int (nI st.sv), .int (nI st.kn), .int (nI st.kc)])) := by rw [E33]; rfl
  have h35 : w32[8]? = some (a.aL, aI G 60 (rI st.L)) := by rw [E33]; rfl
  have h36 : w32[10]? = some (a.aO, aI G 60 (rI u26)) := by rw [E33]; rfl
  refine lv_aload_n hx hb d_M_share_52 rfl (lv_at hl 3 rfl) ?_
  refine lv_aload_n hx hb d_M_share_53 rfl (lv_at hl 3 rfl) ?_
  refine va_get (D := xD G) (ci := 5) (C := R_M) (T := F_M) (N := 19) hx hb ht in_M hown hK hP 0 h34 rfl 13 (by decide) (ht _ k_fl_M_41) (fun _ h9 => h9) rfl d_M_share_54 ?_
  refine lv_iload_n hx hb d_M_share_57 rfl (lv_at hl 4 rfl) ?_
  refine x_callv (va_runV (As := [.ref a.aO, .int (nI ja)]) (rest := []) ⟨hx, hb, hml, hown, ht⟩ (c_M_fetch l G A w32 a (⟨st.th, st.ex, ((st.va + 1) + 1), st.co + 2, st.sv, st.kn, st.kc, st.S, st.Kd, st.In, (va_up (va_up st.Hw st.va 2) (st.va + 1) 1), (va_up (va_up st.Fr st.va st.co) (st.va + 1) (st.co + 1)), (va_up (va_up st.Gn st.va 0) (st.va + 1) 0), (ovb 60 (180 * st.co + 60 * 0) st.R u26), st.L, st.T, u26, st.B, st.W⟩ : MS) E33 10 a.aO u26 h36 (by decide) ja (by omega)) (cwV 2 ht (TW_V k_ml_M_100 k_im_M_fetch k_se_M_fetch k_in_M k_code_M_fetch) rfl rfl rfl hv_M_fetch ⟨Nat.le_of_ble_eq_true rfl, Nat.le_of_ble_eq_true rfl⟩) ⟨x_blind, va_recv hK hP rfl h34, x_pre hE hA hS hP hD⟩ rfl rfl hl.1 rfl (lv_room (Nat.le_of_ble_eq_true rfl)) d_M_share_58 ⟨Nat.le_of_ble_eq_true rfl, Nat.le_of_ble_eq_true rfl⟩) hS (fun w38 H locs q37 hP hD hS => ?_)
  have q37 : w38 = w32.set 10 (a.aO, aI G 60 (rI (ovb 60 0 u26 (fun j => st.S (60 * ja + j))))) := q37
  obtain ⟨u39, e_u39⟩ : ∃ zz : Nat → Nat, zz = ovb 60 0 u26 (fun j => st.S (60 * ja + j)) := ⟨_, rfl⟩
  rw [← e_u39] at q37
  have h_u39 : ∀ j, j < 60 → u39 j = sE E ja j := fun j hj => by rw [e_u39, ovb_at hj]; exact hS9 ja j ga hj
  have E40 : w38 = mW G a (⟨st.th, st.ex, ((st.va + 1) + 1), st.co + 2, st.sv, st.kn, st.kc, st.S, st.Kd, st.In, (va_up (va_up st.Hw st.va 2) (st.va + 1) 1), (va_up (va_up st.Fr st.va st.co) (st.va + 1) (st.co + 1)), (va_up (va_up st.Gn st.va 0) (st.va + 1) 0), (ovb 60 (180 * st.co + 60 * 0) st.R u26), st.L, st.T, u39, st.B, st.W⟩ : MS) := by rw [q37, E33]; rfl
  have h41 : w38[0]? = some (a.m, .inr (5, [.int (nI st.th), .ref a.aS, .ref a.aK, .ref a.aI, .int (nI st.ex), .ref a.aH, .ref a.aF, .ref a.aG, .int (nI ((st.va + 1) + 1)), .ref a.aR, .int (nI (st.co + 2)), .ref a.aL, .ref a.aT, .ref a.aO, .ref a.aB, .ref a.aW, .int (nI st.sv), .int (nI st.kn), .int (nI st.kc)])) := by rw [E40]; rfl
  have h42 : w38[8]? = some (a.aL, aI G 60 (rI st.L)) := by rw [E40]; rfl
  have h43 : w38[10]? = some (a.aO, aI G 60 (rI u39)) := by rw [E40]; rfl
  refine lv_aload_n hx hb d_M_share_61 rfl (lv_at hl 3 rfl) ?_
  refine lv_iload_n hx hb d_M_share_62 rfl (lv_at hl 2 rfl) ?_
  refine lv_iconst (v := (nI 1)) hx hb d_M_share_63 (by decide) ?_
  refine lv_iadd hx hb d_M_share_64 ?_
  refine x_top (nI (st.co + 1)) (nI_add _ _) ?_
  refine lv_iconst (v := (nI 0)) hx hb d_M_share_65 (by decide) ?_
  refine lv_aload_n hx hb d_M_share_66 rfl (lv_at hl 3 rfl) ?_
  refine va_get (D := xD G) (ci := 5) (C := R_M) (T := F_M) (N := 19) hx hb ht in_M hown hK hP 0 h41 rfl 13 (by decide) (ht _ k_fl_M_41) (fun _ h9 => h9) rfl d_M_share_67 ?_
  refine x_callv (va_runV (As := [.int (nI (st.co + 1)), .int (nI 0), .ref a.aO]) (rest := []) ⟨hx, hb, hml, hown, ht⟩ (c_M_keep l G A w38 a (⟨st.th, st.ex, ((st.va + 1) + 1), st.co + 2, st.sv, st.kn, st.kc, st.S, st.Kd, st.In, (va_up (va_up st.Hw st.va 2) (st.va + 1) 1), (va_up (va_up st.Fr st.va st.co) (st.va + 1) (st.co + 1)), (va_up (va_up st.Gn st.va 0) (st.va + 1) 0), (ovb 60 (180 * st.co + 60 * 0) st.R u26), st.L, st.T, u39, st.B, st.W⟩ : MS) E40 10 a.aO u39 h43 (by decide) (st.co + 1) 0 (by omega) (by decide)) (cwV 3 ht (TW_V k_ml_M_79 k_im_M_keep k_se_M_keep k_in_M k_code_M_keep) rfl rfl rfl hv_M_keep ⟨Nat.le_of_ble_eq_true rfl, Nat.le_of_ble_eq_true rfl⟩) ⟨x_blind, va_recv hK hP rfl h41, x_pre hE hA hS hP hD⟩ rfl rfl hl.1 rfl (lv_room (Nat.le_of_ble_eq_true rfl)) d_M_share_70 ⟨Nat.le_of_ble_eq_true rfl, Nat.le_of_ble_eq_true rfl⟩) hS (fun w45 H locs q44 hP hD hS => ?_)
  have E46 : w45 = mW G a (⟨st.th, st.ex, ((st.va + 1) + 1), st.co + 2, st.sv, st.kn, st.kc, st.S, st.Kd, st.In, (va_up (va_up st.Hw st.va 2) (st.va + 1) 1), (va_up (va_up st.Fr st.va st.co) (st.va + 1) (st.co + 1)), (va_up (va_up st.Gn st.va 0) (st.va + 1) 0), (ovb 60 (180 * (st.co + 1) + 60 * 0) (ovb 60 (180 * st.co + 60 * 0) st.R u26) u39), st.L, st.T, u39, st.B, st.W⟩ : MS) := by rw [q44, E40]; rfl
  have h47 : w45[0]? = some (a.m, .inr (5, [.int (nI st.th), .ref a.aS, .ref a.aK, .ref a.aI, .int (nI st.ex), .ref a.aH, .ref a.aF, .ref a.aG, .int (nI ((st.va + 1) + 1)), .ref a.aR, .int (nI (st.co + 2)), .ref a.aL, .ref a.aT, .ref a.aO, .ref a.aB, .ref a.aW, .int (nI st.sv), .int (nI st.kn), .int (nI st.kc)])) := by rw [E46]; rfl
  have h48 : w45[8]? = some (a.aL, aI G 60 (rI st.L)) := by rw [E46]; rfl
  have h49 : w45[10]? = some (a.aO, aI G 60 (rI u39)) := by rw [E46]; rfl
  refine lv_aload_n hx hb d_M_share_73 rfl (lv_at hl 3 rfl) ?_
  refine va_get (D := xD G) (ci := 5) (C := R_M) (T := F_M) (N := 19) hx hb ht in_M hown hK hP 0 h47 rfl 13 (by decide) (ht _ k_fl_M_41) (fun _ h9 => h9) rfl d_M_share_74 ?_
  refine lv_iload hx hb d_M_share_77 (lv_at hl 1 rfl) ?_
  refine x_callv (va_runS (As := [.ref a.aO, .int (nI st.va)]) (rest := []) ⟨hx, hb, hml, hown, ht⟩ (c_M_one l G A w45 10 a.aO u39 h49 st.va (by omega)) (va_cwS 2 ht (TW_S k_ml_M_83 k_st_M_one k_in_M k_code_M_one) rfl rfl rfl hv_M_one.2 ⟨Nat.le_of_ble_eq_true rfl, Nat.le_of_ble_eq_true rfl⟩) ⟨x_blind, x_pre hE hA hS hP hD⟩ rfl rfl hl.1 rfl (lv_room (Nat.le_of_ble_eq_true rfl)) d_M_share_79 ⟨Nat.le_of_ble_eq_true rfl, Nat.le_of_ble_eq_true rfl⟩) hS (fun w51 H locs q50 hP hD hS => ?_)
  have q50 : w51 = w45.set 10 (a.aO, aI G 60 (rI (ovb 60 0 u39 (unit st.va)))) := q50
  obtain ⟨u52, e_u52⟩ : ∃ zz : Nat → Nat, zz = ovb 60 0 u39 (unit st.va) := ⟨_, rfl⟩
  rw [← e_u52] at q50
  have h_u52 : ∀ j, j < 60 → u52 j = unit st.va j := fun j hj => by rw [e_u52, ovb_at hj]
  have E53 : w51 = mW G a (⟨st.th, st.ex, ((st.va + 1) + 1), st.co + 2, st.sv, st.kn, st.kc, st.S, st.Kd, st.In, (va_up (va_up st.Hw st.va 2) (st.va + 1) 1), (va_up (va_up st.Fr st.va st.co) (st.va + 1) (st.co + 1)), (va_up (va_up st.Gn st.va 0) (st.va + 1) 0), (ovb 60 (180 * (st.co + 1) + 60 * 0) (ovb 60 (180 * st.co + 60 * 0) st.R u26) u39), st.L, st.T, u52, st.B, st.W⟩ : MS) := by rw [q50, E46]; rfl
  have h54 : w51[0]? = some (a.m, .inr (5, [.int (nI st.th), .ref a.aS, .ref a.aK, .ref a.aI, .int (nI st.ex), .ref a.aH, .ref a.aF, .ref a.aG, .int (nI ((st.va + 1) + 1)), .ref a.aR, .int (nI (st.co + 2)), .ref a.aL, .ref a.aT, .ref a.aO, .ref a.aB, .ref a.aW, .int (nI st.sv), .int (nI st.kn), .int (nI st.kc)])) := by rw [E53]; rfl
  have h55 : w51[8]? = some (a.aL, aI G 60 (rI st.L)) := by rw [E53]; rfl
  have h56 : w51[10]? = some (a.aO, aI G 60 (rI u52)) := by rw [E53]; rfl
  refine lv_aload_n hx hb d_M_share_82 rfl (lv_at hl 3 rfl) ?_
  refine lv_iload_n hx hb d_M_share_83 rfl (lv_at hl 2 rfl) ?_
  refine lv_iconst (v := (nI 1)) hx hb d_M_share_84 (by decide) ?_
  refine lv_aload_n hx hb d_M_share_85 rfl (lv_at hl 3 rfl) ?_
  refine va_get (D := xD G) (ci := 5) (C := R_M) (T := F_M) (N := 19) hx hb ht in_M hown hK hP 0 h54 rfl 13 (by decide) (ht _ k_fl_M_41) (fun _ h9 => h9) rfl d_M_share_86 ?_
  refine x_callv (va_runV (As := [.int (nI st.co), .int (nI 1), .ref a.aO]) (rest := []) ⟨hx, hb, hml, hown, ht⟩ (c_M_keep l G A w51 a (⟨st.th, st.ex, ((st.va + 1) + 1), st.co + 2, st.sv, st.kn, st.kc, st.S, st.Kd, st.In, (va_up (va_up st.Hw st.va 2) (st.va + 1) 1), (va_up (va_up st.Fr st.va st.co) (st.va + 1) (st.co + 1)), (va_up (va_up st.Gn st.va 0) (st.va + 1) 0), (ovb 60 (180 * (st.co + 1) + 60 * 0) (ovb 60 (180 * st.co + 60 * 0) st.R u26) u39), st.L, st.T, u52, st.B, st.W⟩ : MS) E53 10 a.aO u52 h56 (by decide) st.co 1 (by omega) (by decide)) (cwV 3 ht (TW_V k_ml_M_79 k_im_M_keep k_se_M_keep k_in_M k_code_M_keep) rfl rfl rfl hv_M_keep ⟨Nat.le_of_ble_eq_true rfl, Nat.le_of_ble_eq_true rfl⟩) ⟨x_blind, va_recv hK hP rfl h54, x_pre hE hA hS hP hD⟩ rfl rfl hl.1 rfl (lv_room (Nat.le_of_ble_eq_true rfl)) d_M_share_89 ⟨Nat.le_of_ble_eq_true rfl, Nat.le_of_ble_eq_true rfl⟩) hS (fun w58 H locs q57 hP hD hS => ?_)
  have E59 : w58 = mW G a (⟨st.th, st.ex, ((st.va + 1) + 1), st.co + 2, st.sv, st.kn, st.kc, st.S, st.Kd, st.In, (va_up (va_up st.Hw st.va 2) (st.va + 1) 1), (va_up (va_up st.Fr st.va st.co) (st.va + 1) (st.co + 1)), (va_up (va_up st.Gn st.va 0) (st.va + 1) 0), (ovb 60 (180 * st.co + 60 * 1) (ovb 60 (180 * (st.co + 1) + 60 * 0) (ovb 60 (180 * st.co + 60 * 0) st.R u26) u39) u52), st.L, st.T, u52, st.B, st.W⟩ : MS) := by rw [q57, E53]; rfl
  have h60 : w58[0]? = some (a.m, .inr (5, [.int (nI st.th), .ref a.aS, .ref a.aK, .ref a.aI, .int (nI st.ex), .ref a.aH, .ref a.aF, .ref a.aG, .int (nI ((st.va + 1) + 1)), .ref a.aR, .int (nI (st.co + 2)), .ref a.aL, .ref a.aT, .ref a.aO, .ref a.aB, .ref a.aW, .int (nI st.sv), .int (nI st.kn), .int (nI st.kc)])) := by rw [E59]; rfl
  have h61 : w58[8]? = some (a.aL, aI G 60 (rI st.L)) := by rw [E59]; rfl
  have h62 : w58[10]? = some (a.aO, aI G 60 (rI u52)) := by rw [E59]; rfl
  refine lv_aload_n hx hb d_M_share_92 rfl (lv_at hl 3 rfl) ?_
  refine lv_iload_n hx hb d_M_share_93 rfl (lv_at hl 2 rfl) ?_
  refine lv_iconst (v := (nI 1)) hx hb d_M_share_94 (by decide) ?_
  refine lv_iadd hx hb d_M_share_95 ?_
  refine x_top (nI (st.co + 1)) (nI_add _ _) ?_
  refine lv_iconst (v := (nI 1)) hx hb d_M_share_96 (by decide) ?_
  refine lv_aload_n hx hb d_M_share_97 rfl (lv_at hl 3 rfl) ?_
  refine va_get (D := xD G) (ci := 5) (C := R_M) (T := F_M) (N := 19) hx hb ht in_M hown hK hP 0 h60 rfl 13 (by decide) (ht _ k_fl_M_41) (fun _ h9 => h9) rfl d_M_share_98 ?_
  refine x_callv (va_runV (As := [.int (nI (st.co + 1)), .int (nI 1), .ref a.aO]) (rest := []) ⟨hx, hb, hml, hown, ht⟩ (c_M_keep l G A w58 a (⟨st.th, st.ex, ((st.va + 1) + 1), st.co + 2, st.sv, st.kn, st.kc, st.S, st.Kd, st.In, (va_up (va_up st.Hw st.va 2) (st.va + 1) 1), (va_up (va_up st.Fr st.va st.co) (st.va + 1) (st.co + 1)), (va_up (va_up st.Gn st.va 0) (st.va + 1) 0), (ovb 60 (180 * st.co + 60 * 1) (ovb 60 (180 * (st.co + 1) + 60 * 0) (ovb 60 (180 * st.co + 60 * 0) st.R u26) u39) u52), st.L, st.T, u52, st.B, st.W⟩ : MS) E59 10 a.aO u52 h62 (by decide) (st.co + 1) 1 (by omega) (by decide)) (cwV 3 ht (TW_V k_ml_M_79 k_im_M_keep k_se_M_keep k_in_M k_code_M_keep) rfl rfl rfl hv_M_keep ⟨Nat.le_of_ble_eq_true rfl, Nat.le_of_ble_eq_true rfl⟩) ⟨x_blind, va_recv hK hP rfl h60, x_pre hE hA hS hP hD⟩ rfl rfl hl.1 rfl (lv_room (Nat.le_of_ble_eq_true rfl)) d_M_share_101 ⟨Nat.le_of_ble_eq_true rfl, Nat.le_of_ble_eq_true rfl⟩) hS (fun w64 H locs q63 hP hD hS => ?_)
  have E65 : w64 = mW G a (⟨st.th, st.ex, ((st.va + 1) + 1), st.co + 2, st.sv, st.kn, st.kc, st.S, st.Kd, st.In, (va_up (va_up st.Hw st.va 2) (st.va + 1) 1), (va_up (va_up st.Fr st.va st.co) (st.va + 1) (st.co + 1)), (va_up (va_up st.Gn st.va 0) (st.va + 1) 0), (ovb 60 (180 * (st.co + 1) + 60 * 1) (ovb 60 (180 * st.co + 60 * 1) (ovb 60 (180 * (st.co + 1) + 60 * 0) (ovb 60 (180 * st.co + 60 * 0) st.R u26) u39) u52) u52), st.L, st.T, u52, st.B, st.W⟩ : MS) := by rw [q63, E59]; rfl
  have h66 : w64[0]? = some (a.m, .inr (5, [.int (nI st.th), .ref a.aS, .ref a.aK, .ref a.aI, .int (nI st.ex), .ref a.aH, .ref a.aF, .ref a.aG, .int (nI ((st.va + 1) + 1)), .ref a.aR, .int (nI (st.co + 2)), .ref a.aL, .ref a.aT, .ref a.aO, .ref a.aB, .ref a.aW, .int (nI st.sv), .int (nI st.kn), .int (nI st.kc)])) := by rw [E65]; rfl
  have h67 : w64[8]? = some (a.aL, aI G 60 (rI st.L)) := by rw [E65]; rfl
  have h68 : w64[10]? = some (a.aO, aI G 60 (rI u52)) := by rw [E65]; rfl
  refine lv_aload_n hx hb d_M_share_104 rfl (lv_at hl 3 rfl) ?_
  refine va_get (D := xD G) (ci := 5) (C := R_M) (T := F_M) (N := 19) hx hb ht in_M hown hK hP 0 h66 rfl 13 (by decide) (ht _ k_fl_M_41) (fun _ h9 => h9) rfl d_M_share_105 ?_
  refine lv_iconst (v := (nI 1)) hx hb d_M_share_108 (by decide) ?_
  refine x_callv (va_runS (As := [.ref a.aO, .int (nI 1)]) (rest := []) ⟨hx, hb, hml, hown, ht⟩ (c_M_number l G A w64 10 a.aO u52 h68 (nI 1)) (va_cwS 2 ht (TW_S k_ml_M_64 k_st_M_number k_in_M k_code_M_number) rfl rfl rfl hv_M_number.2 ⟨Nat.le_of_ble_eq_true rfl, Nat.le_of_ble_eq_true rfl⟩) ⟨x_blind, x_pre hE hA hS hP hD⟩ rfl rfl hl.1 rfl (lv_room (Nat.le_of_ble_eq_true rfl)) d_M_share_109 ⟨Nat.le_of_ble_eq_true rfl, Nat.le_of_ble_eq_true rfl⟩) hS (fun w70 H locs q69 hP hD hS => ?_)
  have q69 : w70 = w64.set 10 (a.aO, aI G 60 (rI (ovb 60 0 u52 (nmb (rm (nI 1)))))) := q69
  obtain ⟨u71, e_u71⟩ : ∃ zz : Nat → Nat, zz = ovb 60 0 u52 (nmb (rm (nI 1))) := ⟨_, rfl⟩
  rw [← e_u71] at q69
  have h_u71 : ∀ j, j < 60 → u71 j = unit 0 j := fun j hj => by rw [e_u71, ovb_at hj]; exact nmb1 j
  have E72 : w70 = mW G a (⟨st.th, st.ex, ((st.va + 1) + 1), st.co + 2, st.sv, st.kn, st.kc, st.S, st.Kd, st.In, (va_up (va_up st.Hw st.va 2) (st.va + 1) 1), (va_up (va_up st.Fr st.va st.co) (st.va + 1) (st.co + 1)), (va_up (va_up st.Gn st.va 0) (st.va + 1) 0), (ovb 60 (180 * (st.co + 1) + 60 * 1) (ovb 60 (180 * st.co + 60 * 1) (ovb 60 (180 * (st.co + 1) + 60 * 0) (ovb 60 (180 * st.co + 60 * 0) st.R u26) u39) u52) u52), st.L, st.T, u71, st.B, st.W⟩ : MS) := by rw [q69, E65]; rfl
  have h73 : w70[0]? = some (a.m, .inr (5, [.int (nI st.th), .ref a.aS, .ref a.aK, .ref a.aI, .int (nI st.ex), .ref a.aH, .ref a.aF, .ref a.aG, .int (nI ((st.va + 1) + 1)), .ref a.aR, .int (nI (st.co + 2)), .ref a.aL, .ref a.aT, .ref a.aO, .ref a.aB, .ref a.aW, .int (nI st.sv), .int (nI st.kn), .int (nI st.kc)])) := by rw [E72]; rfl
  have h74 : w70[8]? = some (a.aL, aI G 60 (rI st.L)) := by rw [E72]; rfl
  have h75 : w70[10]? = some (a.aO, aI G 60 (rI u71)) := by rw [E72]; rfl
  refine lv_aload_n hx hb d_M_share_112 rfl (lv_at hl 3 rfl) ?_
  refine lv_iload_n hx hb d_M_share_113 rfl (lv_at hl 2 rfl) ?_
  refine lv_iconst (v := (nI 2)) hx hb d_M_share_114 (by decide) ?_
  refine lv_aload_n hx hb d_M_share_115 rfl (lv_at hl 3 rfl) ?_
  refine va_get (D := xD G) (ci := 5) (C := R_M) (T := F_M) (N := 19) hx hb ht in_M hown hK hP 0 h73 rfl 13 (by decide) (ht _ k_fl_M_41) (fun _ h9 => h9) rfl d_M_share_116 ?_
  refine x_callv (va_runV (As := [.int (nI st.co), .int (nI 2), .ref a.aO]) (rest := []) ⟨hx, hb, hml, hown, ht⟩ (c_M_keep l G A w70 a (⟨st.th, st.ex, ((st.va + 1) + 1), st.co + 2, st.sv, st.kn, st.kc, st.S, st.Kd, st.In, (va_up (va_up st.Hw st.va 2) (st.va + 1) 1), (va_up (va_up st.Fr st.va st.co) (st.va + 1) (st.co + 1)), (va_up (va_up st.Gn st.va 0) (st.va + 1) 0), (ovb 60 (180 * (st.co + 1) + 60 * 1) (ovb 60 (180 * st.co + 60 * 1) (ovb 60 (180 * (st.co + 1) + 60 * 0) (ovb 60 (180 * st.co + 60 * 0) st.R u26) u39) u52) u52), st.L, st.T, u71, st.B, st.W⟩ : MS) E72 10 a.aO u71 h75 (by decide) st.co 2 (by omega) (by decide)) (cwV 3 ht (TW_V k_ml_M_79 k_im_M_keep k_se_M_keep k_in_M k_code_M_keep) rfl rfl rfl hv_M_keep ⟨Nat.le_of_ble_eq_true rfl, Nat.le_of_ble_eq_true rfl⟩) ⟨x_blind, va_recv hK hP rfl h73, x_pre hE hA hS hP hD⟩ rfl rfl hl.1 rfl (lv_room (Nat.le_of_ble_eq_true rfl)) d_M_share_119 ⟨Nat.le_of_ble_eq_true rfl, Nat.le_of_ble_eq_true rfl⟩) hS (fun w77 H locs q76 hP hD hS => ?_)
  have E78 : w77 = mW G a (⟨st.th, st.ex, ((st.va + 1) + 1), st.co + 2, st.sv, st.kn, st.kc, st.S, st.Kd, st.In, (va_up (va_up st.Hw st.va 2) (st.va + 1) 1), (va_up (va_up st.Fr st.va st.co) (st.va + 1) (st.co + 1)), (va_up (va_up st.Gn st.va 0) (st.va + 1) 0), (ovb 60 (180 * st.co + 60 * 2) (ovb 60 (180 * (st.co + 1) + 60 * 1) (ovb 60 (180 * st.co + 60 * 1) (ovb 60 (180 * (st.co + 1) + 60 * 0) (ovb 60 (180 * st.co + 60 * 0) st.R u26) u39) u52) u52) u71), st.L, st.T, u71, st.B, st.W⟩ : MS) := by rw [q76, E72]; rfl
  have h79 : w77[0]? = some (a.m, .inr (5, [.int (nI st.th), .ref a.aS, .ref a.aK, .ref a.aI, .int (nI st.ex), .ref a.aH, .ref a.aF, .ref a.aG, .int (nI ((st.va + 1) + 1)), .ref a.aR, .int (nI (st.co + 2)), .ref a.aL, .ref a.aT, .ref a.aO, .ref a.aB, .ref a.aW, .int (nI st.sv), .int (nI st.kn), .int (nI st.kc)])) := by rw [E78]; rfl
  have h80 : w77[8]? = some (a.aL, aI G 60 (rI st.L)) := by rw [E78]; rfl
  have h81 : w77[10]? = some (a.aO, aI G 60 (rI u71)) := by rw [E78]; rfl
  refine lv_aload_n hx hb d_M_share_122 rfl (lv_at hl 3 rfl) ?_
  refine va_get (D := xD G) (ci := 5) (C := R_M) (T := F_M) (N := 19) hx hb ht in_M hown hK hP 0 h79 rfl 11 (by decide) (ht _ k_fl_M_35) (fun _ h9 => h9) rfl d_M_share_123 ?_
  refine lv_iload hx hb d_M_share_126 (lv_at hl 0 rfl) ?_
  refine x_callv (va_runS (As := [.ref a.aL, .int (nI (st.va + 1))]) (rest := []) ⟨hx, hb, hml, hown, ht⟩ (c_M_one l G A w77 8 a.aL st.L h80 (st.va + 1) (by omega)) (va_cwS 2 ht (TW_S k_ml_M_83 k_st_M_one k_in_M k_code_M_one) rfl rfl rfl hv_M_one.2 ⟨Nat.le_of_ble_eq_true rfl, Nat.le_of_ble_eq_true rfl⟩) ⟨x_blind, x_pre hE hA hS hP hD⟩ rfl rfl hl.1 rfl (lv_room (Nat.le_of_ble_eq_true rfl)) d_M_share_128 ⟨Nat.le_of_ble_eq_true rfl, Nat.le_of_ble_eq_true rfl⟩) hS (fun w83 H locs q82 hP hD hS => ?_)
  have q82 : w83 = w77.set 8 (a.aL, aI G 60 (rI (ovb 60 0 st.L (unit (st.va + 1))))) := q82
  obtain ⟨u84, e_u84⟩ : ∃ zz : Nat → Nat, zz = ovb 60 0 st.L (unit (st.va + 1)) := ⟨_, rfl⟩
  rw [← e_u84] at q82
  have h_u84 : ∀ j, j < 60 → u84 j = unit (st.va + 1) j := fun j hj => by rw [e_u84, ovb_at hj]
  have E85 : w83 = mW G a (⟨st.th, st.ex, ((st.va + 1) + 1), st.co + 2, st.sv, st.kn, st.kc, st.S, st.Kd, st.In, (va_up (va_up st.Hw st.va 2) (st.va + 1) 1), (va_up (va_up st.Fr st.va st.co) (st.va + 1) (st.co + 1)), (va_up (va_up st.Gn st.va 0) (st.va + 1) 0), (ovb 60 (180 * st.co + 60 * 2) (ovb 60 (180 * (st.co + 1) + 60 * 1) (ovb 60 (180 * st.co + 60 * 1) (ovb 60 (180 * (st.co + 1) + 60 * 0) (ovb 60 (180 * st.co + 60 * 0) st.R u26) u39) u52) u52) u71), u84, st.T, u71, st.B, st.W⟩ : MS) := by rw [q82, E78]; rfl
  have h86 : w83[0]? = some (a.m, .inr (5, [.int (nI st.th), .ref a.aS, .ref a.aK, .ref a.aI, .int (nI st.ex), .ref a.aH, .ref a.aF, .ref a.aG, .int (nI ((st.va + 1) + 1)), .ref a.aR, .int (nI (st.co + 2)), .ref a.aL, .ref a.aT, .ref a.aO, .ref a.aB, .ref a.aW, .int (nI st.sv), .int (nI st.kn), .int (nI st.kc)])) := by rw [E85]; rfl
  have h87 : w83[8]? = some (a.aL, aI G 60 (rI u84)) := by rw [E85]; rfl
  have h88 : w83[10]? = some (a.aO, aI G 60 (rI u71)) := by rw [E85]; rfl
  refine lv_aload_n hx hb d_M_share_131 rfl (lv_at hl 3 rfl) ?_
  refine lv_iload_n hx hb d_M_share_132 rfl (lv_at hl 2 rfl) ?_
  refine lv_iconst (v := (nI 1)) hx hb d_M_share_133 (by decide) ?_
  refine lv_iadd hx hb d_M_share_134 ?_
  refine x_top (nI (st.co + 1)) (nI_add _ _) ?_
  refine lv_iconst (v := (nI 2)) hx hb d_M_share_135 (by decide) ?_
  refine lv_aload_n hx hb d_M_share_136 rfl (lv_at hl 3 rfl) ?_
  refine va_get (D := xD G) (ci := 5) (C := R_M) (T := F_M) (N := 19) hx hb ht in_M hown hK hP 0 h86 rfl 11 (by decide) (ht _ k_fl_M_35) (fun _ h9 => h9) rfl d_M_share_137 ?_
  refine x_callv (va_runV (As := [.int (nI (st.co + 1)), .int (nI 2), .ref a.aL]) (rest := []) ⟨hx, hb, hml, hown, ht⟩ (c_M_keep l G A w83 a (⟨st.th, st.ex, ((st.va + 1) + 1), st.co + 2, st.sv, st.kn, st.kc, st.S, st.Kd, st.In, (va_up (va_up st.Hw st.va 2) (st.va + 1) 1), (va_up (va_up st.Fr st.va st.co) (st.va + 1) (st.co + 1)), (va_up (va_up st.Gn st.va 0) (st.va + 1) 0), (ovb 60 (180 * st.co + 60 * 2) (ovb 60 (180 * (st.co + 1) + 60 * 1) (ovb 60 (180 * st.co + 60 * 1) (ovb 60 (180 * (st.co + 1) + 60 * 0) (ovb 60 (180 * st.co + 60 * 0) st.R u26) u39) u52) u52) u71), u84, st.T, u71, st.B, st.W⟩ : MS) E85 8 a.aL u84 h87 (by decide) (st.co + 1) 2 (by omega) (by decide)) (cwV 3 ht (TW_V k_ml_M_79 k_im_M_keep k_se_M_keep k_in_M k_code_M_keep) rfl rfl rfl hv_M_keep ⟨Nat.le_of_ble_eq_true rfl, Nat.le_of_ble_eq_true rfl⟩) ⟨x_blind, va_recv hK hP rfl h86, x_pre hE hA hS hP hD⟩ rfl rfl hl.1 rfl (lv_room (Nat.le_of_ble_eq_true rfl)) d_M_share_140 ⟨Nat.le_of_ble_eq_true rfl, Nat.le_of_ble_eq_true rfl⟩) hS (fun w90 H locs q89 hP hD hS => ?_)
  have E91 : w90 = mW G a (⟨st.th, st.ex, ((st.va + 1) + 1), st.co + 2, st.sv, st.kn, st.kc, st.S, st.Kd, st.In, (va_up (va_up st.Hw st.va 2) (st.va + 1) 1), (va_up (va_up st.Fr st.va st.co) (st.va + 1) (st.co + 1)), (va_up (va_up st.Gn st.va 0) (st.va + 1) 0), (ovb 60 (180 * (st.co + 1) + 60 * 2) (ovb 60 (180 * st.co + 60 * 2) (ovb 60 (180 * (st.co + 1) + 60 * 1) (ovb 60 (180 * st.co + 60 * 1) (ovb 60 (180 * (st.co + 1) + 60 * 0) (ovb 60 (180 * st.co + 60 * 0) st.R u26) u39) u52) u52) u71) u84), u84, st.T, u71, st.B, st.W⟩ : MS) := by rw [q89, E85]; rfl
  have h92 : w90[0]? = some (a.m, .inr (5, [.int (nI st.th), .ref a.aS, .ref a.aK, .ref a.aI, .int (nI st.ex), .ref a.aH, .ref a.aF, .ref a.aG, .int (nI ((st.va + 1) + 1)), .ref a.aR, .int (nI (st.co + 2)), .ref a.aL, .ref a.aT, .ref a.aO, .ref a.aB, .ref a.aW, .int (nI st.sv), .int (nI st.kn), .int (nI st.kc)])) := by rw [E91]; rfl
  have h93 : w90[8]? = some (a.aL, aI G 60 (rI u84)) := by rw [E91]; rfl
  have h94 : w90[10]? = some (a.aO, aI G 60 (rI u71)) := by rw [E91]; rfl
  obtain ⟨k1, ek1⟩ : ∃ zz : KK, zz = (sE E jb, unit V.length, unit 0) := ⟨_, rfl⟩
  obtain ⟨k2, ek2⟩ : ∃ zz : KK, zz = (sE E ja, unit V.length, unit (V.length + 1)) := ⟨_, rfl⟩
  obtain ⟨v1, ev1⟩ : ∃ zz : VV, zz = (3, sE E jb, zr, 0) := ⟨_, rfl⟩
  obtain ⟨v2, ev2⟩ : ∃ zz : VV, zz = (2, sE E ja, unit V.length, 0) := ⟨_, rfl⟩
  have l1 : (K ++ [k1]).length = K.length + 1 := by simp
  have l2 : (V ++ [v1] ++ [v2]).length = V.length + 2 := by simp
  have l3 : (V ++ [v1]).length = V.length + 1 := by simp
  have l4 : (K ++ [k1] ++ [k2]).length = K.length + 2 := by simp
  have rk1 : RK (V.length + 2) (st.co + 1) (ovb 60 (180 * (st.co + 1) + 60 * 2) (ovb 60 (180 * st.co + 60 * 2) (ovb 60 (180 * (st.co + 1) + 60 * 1) (ovb 60 (180 * st.co + 60 * 1) (ovb 60 (180 * (st.co + 1) + 60 * 0) (ovb 60 (180 * st.co + 60 * 0) st.R u26) u39) u52) u52) u71) u84) (K ++ [k1]) := hM.1.add (by omega) (fun c t j hc ht9 hj => by rw [ovb_out (by omega), ovb_out (by omega), ovb_out (by omega), ovb_out (by omega), ovb_out (by omega), ovb_out (by omega)]) (fun t j ht9 hj => by
    have t9 : t = 0 ∨ t = 1 ∨ t = 2 := by omega
    rw [ek1]
    rcases t9 with rfl | rfl | rfl
    · exact ⟨by rw [ovb_out (by omega), ovb_out (by omega), ovb_out (by omega), ovb_out (by omega), ovb_out (by omega), ovb_hit (j := j) (by omega) hj]; exact h_u26 j hj, hS8 jb j gb hj, fun q => hS7 jb j gb (by omega) hj⟩
    · exact ⟨by rw [ovb_out (by omega), ovb_out (by omega), ovb_out (by omega), ovb_hit (j := j) (by omega) hj]; exact (h_u52 j hj).trans (by rw [hva]; rfl), unit_lt _ _, fun q => unit_0 (by omega)⟩
    · exact ⟨by rw [ovb_out (by omega), ovb_hit (j := j) (by omega) hj]; exact h_u71 j hj, unit_lt _ _, fun q => unit_0 (by omega)⟩)
  have rk2 : RK (V.length + 2) (st.co + 2) (ovb 60 (180 * (st.co + 1) + 60 * 2) (ovb 60 (180 * st.co + 60 * 2) (ovb 60 (180 * (st.co + 1) + 60 * 1) (ovb 60 (180 * st.co + 60 * 1) (ovb 60 (180 * (st.co + 1) + 60 * 0) (ovb 60 (180 * st.co + 60 * 0) st.R u26) u39) u52) u52) u71) u84) (K ++ [k1] ++ [k2]) := rk1.add (Nat.le_refl _) (fun c t j hc ht9 hj => rfl) (fun t j ht9 hj => by
    have t9 : t = 0 ∨ t = 1 ∨ t = 2 := by omega
    rw [ek2, l1]
    rcases t9 with rfl | rfl | rfl
    · exact ⟨by rw [ovb_out (by omega), ovb_out (by omega), ovb_out (by omega), ovb_out (by omega), ovb_hit (j := j) (by omega) hj]; exact h_u39 j hj, hS8 ja j ga hj, fun q => hS7 ja j ga (by omega) hj⟩
    · exact ⟨by rw [ovb_out (by omega), ovb_out (by omega), ovb_hit (j := j) (by omega) hj]; exact (h_u52 j hj).trans (by rw [hva]; rfl), unit_lt _ _, fun q => unit_0 (by omega)⟩
    · exact ⟨by rw [ovb_hit (j := j) (by omega) hj]; exact (h_u84 j hj).trans (by rw [hva]; rfl), unit_lt _ _, fun q => unit_0 (by omega)⟩)
  have a1 : kAt (K ++ [k1] ++ [k2]) st.co = k1 := by rw [hco, kAt_app (by omega), kAt_new]
  have a2 : kAt (K ++ [k1] ++ [k2]) (st.co + 1) = k2 := by rw [hco, ← l1, kAt_new]
  have rv1 := RV.add (x := v1) (y := 2) (c := st.co) ((hM.2.1.mono (x := k1)).mono (x := k2)) (by rw [ev1]) (by decide) (by rw [ev1]) (fun _ => ⟨by omega, by rw [a1, ev1, ek1]; exact fun _ _ => rfl, by rw [ev1]; exact fun j h1 hj => hS7 jb j gb h1 hj, fun q => absurd q (by decide)⟩)
  have rv2 := RV.add (x := v2) (y := 1) (c := (st.co + 1)) rv1 (by rw [ev2]) (by decide) (by rw [ev2]) (fun _ => ⟨by omega, by rw [a2, ev2, ek2]; exact fun _ _ => rfl, by rw [ev2, l3]; exact fun j h1 hj => hS7 ja j ga (by omega) hj, fun _ => ⟨by rw [a2, ev2, ek2]; exact fun _ _ => rfl, by rw [ev2, l3]; exact fun j h1 hj => unit_0 (by omega)⟩⟩)
  have rel : MRel (⟨st.th, st.ex, ((st.va + 1) + 1), st.co + 2, st.sv, st.kn, st.kc, st.S, st.Kd, st.In, (va_up (va_up st.Hw st.va 2) (st.va + 1) 1), (va_up (va_up st.Fr st.va st.co) (st.va + 1) (st.co + 1)), (va_up (va_up st.Gn st.va 0) (st.va + 1) 0), (ovb 60 (180 * (st.co + 1) + 60 * 2) (ovb 60 (180 * st.co + 60 * 2) (ovb 60 (180 * (st.co + 1) + 60 * 1) (ovb 60 (180 * st.co + 60 * 1) (ovb 60 (180 * (st.co + 1) + 60 * 0) (ovb 60 (180 * st.co + 60 * 0) st.R u26) u39) u52) u52) u71) u84), u84, st.T, u71, st.B, st.W⟩ : MS) (V ++ [v1] ++ [v2]) E (K ++ [k1] ++ [k2]) inp w wV wC := ⟨by rw [l2]; exact rk2, rv2, by rw [l2]; exact hM.2.2.1.mono (by omega), (hM.2.2.2.mono (x := k1)).mono⟩
  have e7 : shareS (V, K) (sE E ja) (sE E jb) = ((V ++ [v1] ++ [v2], K ++ [k1] ++ [k2]), unit (V.length + 1)) := by rw [ek1, ek2, ev1, ev2]; unfold shareS; simp only [List.length_append, List.length_singleton]
  have e8 : ∀ j, j < 60 → u84 j = unit (V.length + 1) j := fun j hj => by rw [h_u84 j hj, hva]
  exact x_vret hx hb hr hlocks hS hP hD (Nat.le_of_ble_eq_true rfl) (Nat.le_of_ble_eq_true rfl) d_M_share_143 (⟨_, E91, by rw [e7]; exact rel, by rw [e7]; exact e8, by rw [e7]; intro j h1 hj; exact unit_0 (by rw [l2] at h1; omega), rfl⟩)

set_option maxHeartbeats 4000000 in
set_option maxRecDepth 100000 in
theorem c_M_same (l : Launch) (G : xG) (A : Nat → Prop) (ws : va_W) (a : MA) (st : MS) (hw : ws = mW G a st) (V : List VV) (E : List EE) (K : List KK) (inp : Nat) (w : Nat → Nat) (wV wC : Nat) (hM : MRel st V E K inp w wV wC) (ja jb : Nat) (ga : ja < E.length) (gb : jb < E.length) (bE : E.length ≤ 60) (bV : V.length + 2 ≤ 60) (bK : K.length + 2 ≤ 80) : Met l y_M_same (cw_M_same :: TW) { frames := 4, cells := 0, slots := 0, locals := 104 } (va_Pc [.ref a.m, .int (nI ja), .int (nI jb)] (x_P G A ws)) (qV G A (fun w9 => ∃ st' : MS, w9 = mW G a st' ∧ MRel st' (sameS (V, K) (cmb 1 (sE E ja) 96 (sE E jb))).1.1 E (sameS (V, K) (cmb 1 (sE E ja) 96 (sE E jb))).1.2 inp w wV wC ∧ (∀ j, j < 60 → st'.L j = (sameS (V, K) (cmb 1 (sE E ja) 96 (sE E jb))).2 j) ∧ (∀ j, (sameS (V, K) (cmb 1 (sE E ja) 96 (sE E jb))).1.1.length ≤ j → j < 60 → (sameS (V, K) (cmb 1 (sE E ja) 96 (sE E jb))).2 j = 0) ∧ st'.th = st.th)) 0 0 A := by
  refine Met.ofW (cc := b_M_same) (maxL := 6) (ret := none) (by decide) rfl ?_
  intro p e s m args below meth c s₁ B hml hv
  obtain ⟨rfl, hE, hA, hP, hD⟩ := hv
  have hx := B.exec
  have hb := B.bytes
  have hr := B.returns
  have ht : ∀ w ∈ TW, w.before _ s = true := fun w h => atoms_spec (ws := cw_M_same :: TW) B.pre w (List.mem_cons_of_mem _ h)
  have hown : s.vm.findClass R_M = some m.cls := findClass_of_methodNamed B.named
  have hlocks := B.notSynchronized
  have hK := hE.1
  have hS : va_S A s.heap s.heap [] := va_S.rf
  have hl := lv_entry ([.ref a.m, .int (nI ja), .int (nI jb)]) (n := 6) (Nat.le_of_ble_eq_true rfl)
  rw [lg_entry_eq]
  generalize (lg_sl ([.ref a.m, .int (nI ja), .int (nI jb)]) ++ List.replicate (6 - (lg_sl ([.ref a.m, .int (nI ja), .int (nI jb)])).length) Slot.unset).toArray = ls at hl ⊢
  have hl : lv_has ls 6 [(0, .ref a.m), (1, .int (nI ja)), (2, .int (nI jb))] := hl
  have hco := hM.1.1
  have hva := hM.2.1.1
  have hex := hM.2.2.1.1
  have hS9 : ∀ e9 j, e9 < E.length → j < 60 → st.S (60 * e9 + j) = sE E e9 j := fun e9 j h1 h2 => (hM.2.2.1.2.1 e9 j h1 h2).1
  have hS8 : ∀ e9 j, e9 < E.length → j < 60 → sE E e9 j < 97 := fun e9 j h1 h2 => (hM.2.2.1.2.1 e9 j h1 h2).2.1
  have hS6 : ∀ e9, e9 < E.length → ∀ j, j < 60 → st.S (60 * e9 + j) < 97 := fun e9 h1 j h2 => by rw [hS9 e9 j h1 h2]; exact hS8 e9 j h1 h2
  have hS7 : ∀ e9 j, e9 < E.length → V.length ≤ j → j < 60 → sE E e9 j = 0 := fun e9 j h1 h3 h2 => (hM.2.2.1.2.1 e9 j h1 h2).2.2 h3
  have hv1 := hM.2.1.2.1
  have h1 : ws[0]? = some (a.m, .inr (5, [.int (nI st.th), .ref a.aS, .ref a.aK, .ref a.aI, .int (nI st.ex), .ref a.aH, .ref a.aF, .ref a.aG, .int (nI st.va), .ref a.aR, .int (nI st.co), .ref a.aL, .ref a.aT, .ref a.aO, .ref a.aB, .ref a.aW, .int (nI st.sv), .int (nI st.kn), .int (nI st.kc)])) := by rw [hw]; rfl
  have h2 : ws[8]? = some (a.aL, aI G 60 (rI st.L)) := by rw [hw]; rfl
  have h3 : ws[10]? = some (a.aO, aI G 60 (rI st.O)) := by rw [hw]; rfl
  refine lv_aload_n hx hb d_M_same_0 rfl (lv_at hl 0 rfl) ?_
  refine va_get (D := xD G) (ci := 5) (C := R_M) (T := F_M) (N := 19) hx hb ht in_M hown hK hP 0 h1 rfl 10 (by decide) (ht _ k_fl_M_72) (fun _ h9 => h9) rfl d_M_same_1 ?_
  refine lv_istore_n (lv' := [(3, .int (nI st.co)), (0, .ref a.m), (1, .int (nI ja)), (2, .int (nI jb))]) hx hb d_M_same_4 rfl hl (by decide) rfl (fun ls hl => ?_)
  refine lv_aload_n hx hb d_M_same_5 rfl (lv_at hl 1 rfl) ?_
  refine lv_dup hx hb d_M_same_6 rfl ?_
  refine va_get (D := xD G) (ci := 5) (C := R_M) (T := F_M) (N := 19) hx hb ht in_M hown hK hP 0 h1 rfl 10 (by decide) (ht _ k_fl_M_72) (fun _ h9 => h9) rfl d_M_same_7 ?_
  refine lv_iconst (v := (nI 2)) hx hb d_M_same_10 (by decide) ?_
  refine lv_iadd hx hb d_M_same_11 ?_
  refine x_top (nI (st.co + 2)) (nI_add _ _) ?_
  refine va_put (D := xD G) (ci := 5) (v := .int (nI (st.co + 2))) (ty := .int) (C := R_M) (T := F_M) (N := 19) hx hb ht in_M ft_M fo_M nm_M hown hK hP hD hS 0 h1 rfl 10 (by decide) (ht _ k_fl_M_72) (fun _ h9 => h9) rfl (by decide +kernel) rfl rfl (Nat.le_of_ble_eq_true rfl) d_M_same_12 (fun H locs hP hD hS => ?_)
  have hP : va_P (xD G) CL (ws.set 0 (a.m, .inr (5, [.int (nI st.th), .ref a.aS, .ref a.aK, .ref a.aI, .int (nI st.ex), .ref a.aH, .ref a.aF, .ref a.aG, .int (nI st.va), .ref a.aR, .int (nI (st.co + 2)), .ref a.aL, .ref a.aT, .ref a.aO, .ref a.aB, .ref a.aW, .int (nI st.sv), .int (nI st.kn), .int (nI st.kc)]))) H := hP
  have hD : va_D A (ws.set 0 (a.m, .inr (5, [.int (nI st.th), .ref a.aS, .ref a.aK, .ref a.aI, .int (nI st.ex), .ref a.aH, .ref a.aF, .ref a.aG, .int (nI st.va), .ref a.aR, .int (nI (st.co + 2)), .ref a.aL, .ref a.aT, .ref a.aO, .ref a.aB, .ref a.aW, .int (nI st.sv), .int (nI st.kn), .int (nI st.kc)]))) := hD
  obtain ⟨w4, e_w4⟩ : ∃ zz : va_W, zz = ws.set 0 (a.m, .inr (5, [.int (nI st.th), .ref a.aS, .ref a.aK, .ref a.aI, .int (nI st.ex), .ref a.aH, .ref a.aF, .ref a.aG, .int (nI st.va), .ref a.aR, .int (nI (st.co + 2)), .ref a.aL, .ref a.aT, .ref a.aO, .ref a.aB, .ref a.aW, .int (nI st.sv), .int (nI st.kn), .int (nI st.kc)])) := ⟨_, rfl⟩
  rw [← e_w4] at hP hD
  have h5 : w4[0]? = some (a.m, .inr (5, [.int (nI st.th), .ref a.aS, .ref a.aK, .ref a.aI, .int (nI st.ex), .ref a.aH, .ref a.aF, .ref a.aG, .int (nI st.va), .ref a.aR, .int (nI (st.co + 2)), .ref a.aL, .ref a.aT, .ref a.aO, .ref a.aB, .ref a.aW, .int (nI st.sv), .int (nI st.kn), .int (nI st.kc)])) := by rw [e_w4]; exact w_eq h1
  have E6 : w4 = mW G a (⟨st.th, st.ex, st.va, st.co + 2, st.sv, st.kn, st.kc, st.S, st.Kd, st.In, st.Hw, st.Fr, st.Gn, st.R, st.L, st.T, st.O, st.B, st.W⟩ : MS) := by rw [e_w4, hw]; rfl
  have h7 : w4[0]? = some (a.m, .inr (5, [.int (nI st.th), .ref a.aS, .ref a.aK, .ref a.aI, .int (nI st.ex), .ref a.aH, .ref a.aF, .ref a.aG, .int (nI st.va), .ref a.aR, .int (nI (st.co + 2)), .ref a.aL, .ref a.aT, .ref a.aO, .ref a.aB, .ref a.aW, .int (nI st.sv), .int (nI st.kn), .int (nI st.kc)])) := by rw [E6]; rfl
  have h8 : w4[8]? = some (a.aL, aI G 60 (rI st.L)) := by rw [E6]; rfl
  have h9 : w4[10]? = some (a.aO, aI G 60 (rI st.O)) := by rw [E6]; rfl
  refine lv_aload_n hx hb d_M_same_15 rfl (lv_at hl 1 rfl) ?_
  refine lv_iconst (v := (nI 3)) hx hb d_M_same_16 (by decide) ?_
  refine lv_iload_n hx hb d_M_same_17 rfl (lv_at hl 0 rfl) ?_
  refine x_calli (va_runV (As := [.int (nI 3), .int (nI st.co)]) (rest := []) ⟨hx, hb, hml, hown, ht⟩ (c_M_var l G A w4 a (⟨st.th, st.ex, st.va, st.co + 2, st.sv, st.kn, st.kc, st.S, st.Kd, st.In, st.Hw, st.Fr, st.Gn, st.R, st.L, st.T, st.O, st.B, st.W⟩ : MS) E6 (show st.va < 60 by omega) 3 st.co) (cwV 2 ht (TW_V k_ml_M_75 k_im_M_variable k_se_M_variable k_in_M k_code_M_variable) rfl rfl rfl hv_M_variable ⟨Nat.le_of_ble_eq_true rfl, Nat.le_of_ble_eq_true rfl⟩) ⟨x_blind, va_recv hK hP rfl h7, x_pre hE hA hS hP hD⟩ rfl rfl hl.1 rfl (lv_room (Nat.le_of_ble_eq_true rfl)) d_M_same_18 ⟨Nat.le_of_ble_eq_true rfl, Nat.le_of_ble_eq_true rfl⟩) hS (fun r12 w11 H locs q10 hP hD hS => ?_)
  obtain ⟨rfl, q10⟩ := q10
  have E13 : w11 = mW G a (⟨st.th, st.ex, (st.va + 1), st.co + 2, st.sv, st.kn, st.kc, st.S, st.Kd, st.In, (va_up st.Hw st.va 3), (va_up st.Fr st.va st.co), (va_up st.Gn st.va 0), st.R, st.L, st.T, st.O, st.B, st.W⟩ : MS) := q10
  have h14 : w11[0]? = some (a.m, .inr (5, [.int (nI st.th), .ref a.aS, .ref a.aK, .ref a.aI, .int (nI st.ex), .ref a.aH, .ref a.aF, .ref a.aG, .int (nI (st.va + 1)), .ref a.aR, .int (nI (st.co + 2)), .ref a.aL, .ref a.aT, .ref a.aO, .ref a.aB, .ref a.aW, .int (nI st.sv), .int (nI st.kn), .int (nI st.kc)])) := by rw [E13]; rfl
  have h15 : w11[8]? = some (a.aL, aI G 60 (rI st.L)) := by rw [E13]; rfl
  have h16 : w11[10]? = some (a.aO, aI G 60 (rI st.O)) := by rw [E13]; rfl
  refine lv_istore (lv' := [(4, .int (nI st.va)), (3, .int (nI st.co)), (0, .ref a.m), (1, .int (nI ja)), (2, .int (nI jb))]) hx hb d_M_same_21 hl (by decide) rfl (fun ls hl => ?_)
  refine lv_aload_n hx hb d_M_same_23 rfl (lv_at hl 2 rfl) ?_
  refine lv_iconst (v := (nI 4)) hx hb d_M_same_24 (by decide) ?_
  refine lv_iload_n hx hb d_M_same_25 rfl (lv_at hl 1 rfl) ?_
  refine x_calli (va_runV (As := [.int (nI 4), .int (nI st.co)]) (rest := []) ⟨hx, hb, hml, hown, ht⟩ (c_M_var l G A w11 a (⟨st.th, st.ex, (st.va + 1), st.co + 2, st.sv, st.kn, st.kc, st.S, st.Kd, st.In, (va_up st.Hw st.va 3), (va_up st.Fr st.va st.co), (va_up st.Gn st.va 0), st.R, st.L, st.T, st.O, st.B, st.W⟩ : MS) E13 (show (st.va + 1) < 60 by omega) 4 st.co) (cwV 2 ht (TW_V k_ml_M_75 k_im_M_variable k_se_M_variable k_in_M k_code_M_variable) rfl rfl rfl hv_M_variable ⟨Nat.le_of_ble_eq_true rfl, Nat.le_of_ble_eq_true rfl⟩) ⟨x_blind, va_recv hK hP rfl h14, x_pre hE hA hS hP hD⟩ rfl rfl hl.1 rfl (lv_room (Nat.le_of_ble_eq_true rfl)) d_M_same_26 ⟨Nat.le_of_ble_eq_true rfl, Nat.le_of_ble_eq_true rfl⟩) hS (fun r19 w18 H locs q17 hP hD hS => ?_)
  obtain ⟨rfl, q17⟩ := q17
  have E20 : w18 = mW G a (⟨st.th, st.ex, ((st.va + 1) + 1), st.co + 2, st.sv, st.kn, st.kc, st.S, st.Kd, st.In, (va_up (va_up st.Hw st.va 3) (st.va + 1) 4), (va_up (va_up st.Fr st.va st.co) (st.va + 1) st.co), (va_up (va_up st.Gn st.va 0) (st.va + 1) 0), st.R, st.L, st.T, st.O, st.B, st.W⟩ : MS) := q17
  have h21 : w18[0]? = some (a.m, .inr (5, [.int (nI st.th), .ref a.aS, .ref a.aK, .ref a.aI, .int (nI st.ex), .ref a.aH, .ref a.aF, .ref a.aG, .int (nI ((st.va + 1) + 1)), .ref a.aR, .int (nI (st.co + 2)), .ref a.aL, .ref a.aT, .ref a.aO, .ref a.aB, .ref a.aW, .int (nI st.sv), .int (nI st.kn), .int (nI st.kc)])) := by rw [E20]; rfl
  have h22 : w18[8]? = some (a.aL, aI G 60 (rI st.L)) := by rw [E20]; rfl
  have h23 : w18[10]? = some (a.aO, aI G 60 (rI st.O)) := by rw [E20]; rfl
  refine lv_istore (lv' := [(5, .int (nI (st.va + 1))), (4, .int (nI st.va)), (3, .int (nI st.co)), (0, .ref a.m), (1, .int (nI ja)), (2, .int (nI jb))]) hx hb d_M_same_29 hl (by decide) rfl (fun ls hl => ?_)
  refine lv_aload_n hx hb d_M_same_31 rfl (lv_at hl 3 rfl) ?_
  refine lv_aload_n hx hb d_M_same_32 rfl (lv_at hl 3 rfl) ?_
  refine va_get (D := xD G) (ci := 5) (C := R_M) (T := F_M) (N := 19) hx hb ht in_M hown hK hP 0 h21 rfl 13 (by decide) (ht _ k_fl_M_41) (fun _ h9 => h9) rfl d_M_same_33 ?_
  refine lv_iload_n hx hb d_M_same_36 rfl (lv_at hl 4 rfl) ?_
  refine x_callv (va_runV (As := [.ref a.aO, .int (nI ja)]) (rest := []) ⟨hx, hb, hml, hown, ht⟩ (c_M_fetch l G A w18 a (⟨st.th, st.ex, ((st.va + 1) + 1), st.co + 2, st.sv, st.kn, st.kc, st.S, st.Kd, st.In, (va_up (va_up st.Hw st.va 3) (st.va + 1) 4), (va_up (va_up st.Fr st.va st.co) (st.va + 1) st.co), (va_up (va_up st.Gn st.va 0) (st.va + 1) 0), st.R, st.L, st.T, st.O, st.B, st.W⟩ : MS) E20 10 a.aO st.O h23 (by decide) ja (by omega)) (cwV 2 ht (TW_V k_ml_M_100 k_im_M_fetch k_se_M_fetch k_in_M k_code_M_fetch) rfl rfl rfl hv_M_fetch ⟨Nat.le_of_ble_eq_true rfl, Nat.le_of_ble_eq_true rfl⟩) ⟨x_blind, va_recv hK hP rfl h21, x_pre hE hA hS hP hD⟩ rfl rfl hl.1 rfl (lv_room (Nat.le_of_ble_eq_true rfl)) d_M_same_37 ⟨Nat.le_of_ble_eq_true rfl, Nat.le_of_ble_eq_true rfl⟩) hS (fun w25 H locs q24 hP hD hS => ?_)
  have q24 : w25 = w18.set 10 (a.aO, aI G 60 (rI (ovb 60 0 st.O (fun j => st.S (60 * ja + j))))) := q24
  obtain ⟨u26, e_u26⟩ : ∃ zz : Nat → Nat, zz = ovb 60 0 st.O (fun j => st.S (60 * ja + j)) := ⟨_, rfl⟩
  rw [← e_u26] at q24
  have h_u26 : ∀ j, j < 60 → u26 j = sE E ja j := fun j hj => by rw [e_u26, ovb_at hj]; exact hS9 ja j ga hj
  have E27 : w25 = mW G a (⟨st.th, st.ex, ((st.va + 1) + 1), st.co + 2, st.sv, st.kn, st.kc, st.S, st.Kd, st.In, (va_up (va_up st.Hw st.va 3) (st.va + 1) 4), (va_up (va_up st.Fr st.va st.co) (st.va + 1) st.co), (va_up (va_up st.Gn st.va 0) (st.va + 1) 0), st.R, st.L, st.T, u26, st.B, st.W⟩ : MS) := by rw [q24, E20]; rfl
  have h28 : w25[0]? = some (a.m, .inr (5, [.int (nI st.th), .ref a.aS, .ref a.aK, .ref a.aI, .int (nI st.ex), .ref a.aH, .ref a.aF, .ref a.aG, .int (nI ((st.va + 1) + 1)), .ref a.aR, .int (nI (st.co + 2)), .ref a.aL, .ref a.aT, .ref a.aO, .ref a.aB, .ref a.aW, .int (nI st.sv), .int (nI st.kn), .int (nI st.kc)])) := by rw [E27]; rfl
  have h29 : w25[8]? = some (a.aL, aI G 60 (rI st.L)) := by rw [E27]; rfl
  have h30 : w25[10]? = some (a.aO, aI G 60 (rI u26)) := by rw [E27]; rfl
  refine lv_aload_n hx hb d_M_same_40 rfl (lv_at hl 3 rfl) ?_
  refine lv_aload_n hx hb d_M_same_41 rfl (lv_at hl 3 rfl) ?_
  refine va_get (D := xD G) (ci := 5) (C := R_M) (T := F_M) (N := 19) hx hb ht in_M hown hK hP 0 h28 rfl 13 (by decide) (ht _ k_fl_M_41) (fun _ h9 => h9) rfl d_M_same_42 ?_
  refine lv_iload_n hx hb d_M_same_45 rfl (lv_at hl 5 rfl) ?_
  refine lv_bipush (v := (nI 96)) hx hb d_M_same_46 (by decide) ?_
  refine x_callv (va_runV (As := [.ref a.aO, .int (nI jb), .int (nI 96)]) (rest := []) ⟨hx, hb, hml, hown, ht⟩ (c_M_add l G A w25 a (⟨st.th, st.ex, ((st.va + 1) + 1), st.co + 2, st.sv, st.kn, st.kc, st.S, st.Kd, st.In, (va_up (va_up st.Hw st.va 3) (st.va + 1) 4), (va_up (va_up st.Fr st.va st.co) (st.va + 1) st.co), (va_up (va_up st.Gn st.va 0) (st.va + 1) 0), st.R, st.L, st.T, u26, st.B, st.W⟩ : MS) E27 10 a.aO u26 h30 (by decide) jb 96 (by omega) (by decide) (fun j hj => by rw [h_u26 j hj]; exact hS8 ja j ga hj) (hS6 jb gb)) (cwV 3 ht (TW_V k_ml_M_90 k_im_M_add k_se_M_add k_in_M k_code_M_add) rfl rfl rfl hv_M_add ⟨Nat.le_of_ble_eq_true rfl, Nat.le_of_ble_eq_true rfl⟩) ⟨x_blind, va_recv hK hP rfl h28, x_pre hE hA hS hP hD⟩ rfl rfl hl.1 rfl (lv_room (Nat.le_of_ble_eq_true rfl)) d_M_same_48 ⟨Nat.le_of_ble_eq_true rfl, Nat.le_of_ble_eq_true rfl⟩) hS (fun w32 H locs q31 hP hD hS => ?_)
  have q31 : w32 = w25.set 10 (a.aO, aI G 60 (rI (ovb 60 0 u26 (fun j => (u26 j + 96 * st.S (60 * jb + j)) % 97)))) := q31
  obtain ⟨u33, e_u33⟩ : ∃ zz : Nat → Nat, zz = ovb 60 0 u26 (fun j => (u26 j + 96 * st.S (60 * jb + j)) % 97) := ⟨_, rfl⟩
  rw [← e_u33] at q31
  have h_u33 : ∀ j, j < 60 → u33 j = cmb 1 (sE E ja) 96 (sE E jb) j := fun j hj => by rw [e_u33, ovb_at hj]; show (u26 j + 96 * st.S (60 * jb + j)) % 97 = (1 * sE E ja j + 96 * sE E jb j) % 97; rw [h_u26 j hj, hS9 jb j gb hj, Nat.one_mul]
  have E34 : w32 = mW G a (⟨st.th, st.ex, ((st.va + 1) + 1), st.co + 2, st.sv, st.kn, st.kc, st.S, st.Kd, st.In, (va_up (va_up st.Hw st.va 3) (st.va + 1) 4), (va_up (va_up st.Fr st.va st.co) (st.va + 1) st.co), (va_up (va_up st.Gn st.va 0) (st.va + 1) 0), st.R, st.L, st.T, u33, st.B, st.W⟩ : MS) := by rw [q31, E27]; rfl
  have h35 : w32[0]? = some (a.m, .inr (5, [.int (nI st.th), .ref a.aS, .ref a.aK, .ref a.aI, .int (nI st.ex), .ref a.aH, .ref a.aF, .ref a.aG, .int (nI ((st.va + 1) + 1)), .ref a.aR, .int (nI (st.co + 2)), .ref a.aL, .ref a.aT, .ref a.aO, .ref a.aB, .ref a.aW, .int (nI st.sv), .int (nI st.kn), .int (nI st.kc)])) := by rw [E34]; rfl
  have h36 : w32[8]? = some (a.aL, aI G 60 (rI st.L)) := by rw [E34]; rfl
  have h37 : w32[10]? = some (a.aO, aI G 60 (rI u33)) := by rw [E34]; rfl
  refine lv_aload_n hx hb d_M_same_51 rfl (lv_at hl 3 rfl) ?_
  refine lv_iload_n hx hb d_M_same_52 rfl (lv_at hl 2 rfl) ?_
  refine lv_iconst (v := (nI 0)) hx hb d_M_same_53 (by decide) ?_
  refine lv_aload_n hx hb d_M_same_54 rfl (lv_at hl 3 rfl) ?_
  refine va_get (D := xD G) (ci := 5) (C := R_M) (T := F_M) (N := 19) hx hb ht in_M hown hK hP 0 h35 rfl 13 (by decide) (ht _ k_fl_M_41) (fun _ h9 => h9) rfl d_M_same_55 ?_
  refine x_callv (va_runV (As := [.int (nI st.co), .int (nI 0), .ref a.aO]) (rest := []) ⟨hx, hb, hml, hown, ht⟩ (c_M_keep l G A w32 a (⟨st.th, st.ex, ((st.va + 1) + 1), st.co + 2, st.sv, st.kn, st.kc, st.S, st.Kd, st.In, (va_up (va_up st.Hw st.va 3) (st.va + 1) 4), (va_up (va_up st.Fr st.va st.co) (st.va + 1) st.co), (va_up (va_up st.Gn st.va 0) (st.va + 1) 0), st.R, st.L, st.T, u33, st.B, st.W⟩ : MS) E34 10 a.aO u33 h37 (by decide) st.co 0 (by omega) (by decide)) (cwV 3 ht (TW_V k_ml_M_79 k_im_M_keep k_se_M_keep k_in_M k_code_M_keep) rfl rfl rfl hv_M_keep ⟨Nat.le_of_ble_eq_true rfl, Nat.le_of_ble_eq_true rfl⟩) ⟨x_blind, va_recv hK hP rfl h35, x_pre hE hA hS hP hD⟩ rfl rfl hl.1 rfl (lv_room (Nat.le_of_ble_eq_true rfl)) d_M_same_58 ⟨Nat.le_of_ble_eq_true rfl, Nat.le_of_ble_eq_true rfl⟩) hS (fun w39 H locs q38 hP hD hS => ?_)
  have E40 : w39 = mW G a (⟨st.th, st.ex, ((st.va + 1) + 1), st.co + 2, st.sv, st.kn, st.kc, st.S, st.Kd, st.In, (va_up (va_up st.Hw st.va 3) (st.va + 1) 4), (va_up (va_up st.Fr st.va st.co) (st.va + 1) st.co), (va_up (va_up st.Gn st.va 0) (st.va + 1) 0), (ovb 60 (180 * st.co + 60 * 0) st.R u33), st.L, st.T, u33, st.B, st.W⟩ : MS) := by rw [q38, E34]; rfl
  have h41 : w39[0]? = some (a.m, .inr (5, [.int (nI st.th), .ref a.aS, .ref a.aK, .ref a.aI, .int (nI st.ex), .ref a.aH, .ref a.aF, .ref a.aG, .int (nI ((st.va + 1) + 1)), .ref a.aR, .int (nI (st.co + 2)), .ref a.aL, .ref a.aT, .ref a.aO, .ref a.aB, .ref a.aW, .int (nI st.sv), .int (nI st.kn), .int (nI st.kc)])) := by rw [E40]; rfl
  have h42 : w39[8]? = some (a.aL, aI G 60 (rI st.L)) := by rw [E40]; rfl
  have h43 : w39[10]? = some (a.aO, aI G 60 (rI u33)) := by rw [E40]; rfl
  refine lv_aload_n hx hb d_M_same_61 rfl (lv_at hl 3 rfl) ?_
  refine lv_iload_n hx hb d_M_same_62 rfl (lv_at hl 2 rfl) ?_
  refine lv_iconst (v := (nI 1)) hx hb d_M_same_63 (by decide) ?_
  refine lv_iadd hx hb d_M_same_64 ?_
  refine x_top (nI (st.co + 1)) (nI_add _ _) ?_
  refine lv_iconst (v := (nI 0)) hx hb d_M_same_65 (by decide) ?_
  refine lv_aload_n hx hb d_M_same_66 rfl (lv_at hl 3 rfl) ?_
  refine va_get (D := xD G) (ci := 5) (C := R_M) (T := F_M) (N := 19) hx hb ht in_M hown hK hP 0 h41 rfl 13 (by decide) (ht _ k_fl_M_41) (fun _ h9 => h9) rfl d_M_same_67 ?_
  refine x_callv (va_runV (As := [.int (nI (st.co + 1)), .int (nI 0), .ref a.aO]) (rest := []) ⟨hx, hb, hml, hown, ht⟩ (c_M_keep l G A w39 a (⟨st.th, st.ex, ((st.va + 1) + 1), st.co + 2, st.sv, st.kn, st.kc, st.S, st.Kd, st.In, (va_up (va_up st.Hw st.va 3) (st.va + 1) 4), (va_up (va_up st.Fr st.va st.co) (st.va + 1) st.co), (va_up (va_up st.Gn st.va 0) (st.va + 1) 0), (ovb 60 (180 * st.co + 60 * 0) st.R u33), st.L, st.T, u33, st.B, st.W⟩ : MS) E40 10 a.aO u33 h43 (by decide) (st.co + 1) 0 (by omega) (by decide)) (cwV 3 ht (TW_V k_ml_M_79 k_im_M_keep k_se_M_keep k_in_M k_code_M_keep) rfl rfl rfl hv_M_keep ⟨Nat.le_of_ble_eq_true rfl, Nat.le_of_ble_eq_true rfl⟩) ⟨x_blind, va_recv hK hP rfl h41, x_pre hE hA hS hP hD⟩ rfl rfl hl.1 rfl (lv_room (Nat.le_of_ble_eq_true rfl)) d_M_same_70 ⟨Nat.le_of_ble_eq_true rfl, Nat.le_of_ble_eq_true rfl⟩) hS (fun w45 H locs q44 hP hD hS => ?_)
  have E46 : w45 = mW G a (⟨st.th, st.ex, ((st.va + 1) + 1), st.co + 2, st.sv, st.kn, st.kc, st.S, st.Kd, st.In, (va_up (va_up st.Hw st.va 3) (st.va + 1) 4), (va_up (va_up st.Fr st.va st.co) (st.va + 1) st.co), (va_up (va_up st.Gn st.va 0) (st.va + 1) 0), (ovb 60 (180 * (st.co + 1) + 60 * 0) (ovb 60 (180 * st.co + 60 * 0) st.R u33) u33), st.L, st.T, u33, st.B, st.W⟩ : MS) := by rw [q44, E40]; rfl
  have h47 : w45[0]? = some (a.m, .inr (5, [.int (nI st.th), .ref a.aS, .ref a.aK, .ref a.aI, .int (nI st.ex), .ref a.aH, .ref a.aF, .ref a.aG, .int (nI ((st.va + 1) + 1)), .ref a.aR, .int (nI (st.co + 2)), .ref a.aL, .ref a.aT, .ref a.aO, .ref a.aB, .ref a.aW, .int (nI st.sv), .int (nI st.kn), .int (nI st.kc)])) := by rw [E46]; rfl
  have h48 : w45[8]? = some (a.aL, aI G 60 (rI st.L)) := by rw [E46]; rfl
  have h49 : w45[10]? = some (a.aO, aI G 60 (rI u33)) := by rw [E46]; rfl
  refine lv_aload_n hx hb d_M_same_73 rfl (lv_at hl 3 rfl) ?_
  refine va_get (D := xD G) (ci := 5) (C := R_M) (T := F_M) (N := 19) hx hb ht in_M hown hK hP 0 h47 rfl 13 (by decide) (ht _ k_fl_M_41) (fun _ h9 => h9) rfl d_M_same_74 ?_
  refine lv_iload hx hb d_M_same_77 (lv_at hl 1 rfl) ?_
  refine x_callv (va_runS (As := [.ref a.aO, .int (nI st.va)]) (rest := []) ⟨hx, hb, hml, hown, ht⟩ (c_M_one l G A w45 10 a.aO u33 h49 st.va (by omega)) (va_cwS 2 ht (TW_S k_ml_M_83 k_st_M_one k_in_M k_code_M_one) rfl rfl rfl hv_M_one.2 ⟨Nat.le_of_ble_eq_true rfl, Nat.le_of_ble_eq_true rfl⟩) ⟨x_blind, x_pre hE hA hS hP hD⟩ rfl rfl hl.1 rfl (lv_room (Nat.le_of_ble_eq_true rfl)) d_M_same_79 ⟨Nat.le_of_ble_eq_true rfl, Nat.le_of_ble_eq_true rfl⟩) hS (fun w51 H locs q50 hP hD hS => ?_)
  have q50 : w51 = w45.set 10 (a.aO, aI G 60 (rI (ovb 60 0 u33 (unit st.va)))) := q50
  obtain ⟨u52, e_u52⟩ : ∃ zz : Nat → Nat, zz = ovb 60 0 u33 (unit st.va) := ⟨_, rfl⟩
  rw [← e_u52] at q50
  have h_u52 : ∀ j, j < 60 → u52 j = unit st.va j := fun j hj => by rw [e_u52, ovb_at hj]
  have E53 : w51 = mW G a (⟨st.th, st.ex, ((st.va + 1) + 1), st.co + 2, st.sv, st.kn, st.kc, st.S, st.Kd, st.In, (va_up (va_up st.Hw st.va 3) (st.va + 1) 4), (va_up (va_up st.Fr st.va st.co) (st.va + 1) st.co), (va_up (va_up st.Gn st.va 0) (st.va + 1) 0), (ovb 60 (180 * (st.co + 1) + 60 * 0) (ovb 60 (180 * st.co + 60 * 0) st.R u33) u33), st.L, st.T, u52, st.B, st.W⟩ : MS) := by rw [q50, E46]; rfl
  have h54 : w51[0]? = some (a.m, .inr (5, [.int (nI st.th), .ref a.aS, .ref a.aK, .ref a.aI, .int (nI st.ex), .ref a.aH, .ref a.aF, .ref a.aG, .int (nI ((st.va + 1) + 1)), .ref a.aR, .int (nI (st.co + 2)), .ref a.aL, .ref a.aT, .ref a.aO, .ref a.aB, .ref a.aW, .int (nI st.sv), .int (nI st.kn), .int (nI st.kc)])) := by rw [E53]; rfl
  have h55 : w51[8]? = some (a.aL, aI G 60 (rI st.L)) := by rw [E53]; rfl
  have h56 : w51[10]? = some (a.aO, aI G 60 (rI u52)) := by rw [E53]; rfl
  refine lv_aload_n hx hb d_M_same_82 rfl (lv_at hl 3 rfl) ?_
  refine lv_iload_n hx hb d_M_same_83 rfl (lv_at hl 2 rfl) ?_
  refine lv_iconst (v := (nI 1)) hx hb d_M_same_84 (by decide) ?_
  refine lv_aload_n hx hb d_M_same_85 rfl (lv_at hl 3 rfl) ?_
  refine va_get (D := xD G) (ci := 5) (C := R_M) (T := F_M) (N := 19) hx hb ht in_M hown hK hP 0 h54 rfl 13 (by decide) (ht _ k_fl_M_41) (fun _ h9 => h9) rfl d_M_same_86 ?_
  refine x_callv (va_runV (As := [.int (nI st.co), .int (nI 1), .ref a.aO]) (rest := []) ⟨hx, hb, hml, hown, ht⟩ (c_M_keep l G A w51 a (⟨st.th, st.ex, ((st.va + 1) + 1), st.co + 2, st.sv, st.kn, st.kc, st.S, st.Kd, st.In, (va_up (va_up st.Hw st.va 3) (st.va + 1) 4), (va_up (va_up st.Fr st.va st.co) (st.va + 1) st.co), (va_up (va_up st.Gn st.va 0) (st.va + 1) 0), (ovb 60 (180 * (st.co + 1) + 60 * 0) (ovb 60 (180 * st.co + 60 * 0) st.R u33) u33), st.L, st.T, u52, st.B, st.W⟩ : MS) E53 10 a.aO u52 h56 (by decide) st.co 1 (by omega) (by decide)) (cwV 3 ht (TW_V k_ml_M_79 k_im_M_keep k_se_M_keep k_in_M k_code_M_keep) rfl rfl rfl hv_M_keep ⟨Nat.le_of_ble_eq_true rfl, Nat.le_of_ble_eq_true rfl⟩) ⟨x_blind, va_recv hK hP rfl h54, x_pre hE hA hS hP hD⟩ rfl rfl hl.1 rfl (lv_room (Nat.le_of_ble_eq_true rfl)) d_M_same_89 ⟨Nat.le_of_ble_eq_true rfl, Nat.le_of_ble_eq_true rfl⟩) hS (fun w58 H locs q57 hP hD hS => ?_)
  have E59 : w58 = mW G a (⟨st.th, st.ex, ((st.va + 1) + 1), st.co + 2, st.sv, st.kn, st.kc, st.S, st.Kd, st.In, (va_up (va_up st.Hw st.va 3) (st.va + 1) 4), (va_up (va_up st.Fr st.va st.co) (st.va + 1) st.co), (va_up (va_up st.Gn st.va 0) (st.va + 1) 0), (ovb 60 (180 * st.co + 60 * 1) (ovb 60 (180 * (st.co + 1) + 60 * 0) (ovb 60 (180 * st.co + 60 * 0) st.R u33) u33) u52), st.L, st.T, u52, st.B, st.W⟩ : MS) := by rw [q57, E53]; rfl
  have h60 : w58[0]? = some (a.m, .inr (5, [.int (nI st.th), .ref a.aS, .ref a.aK, .ref a.aI, .int (nI st.ex), .ref a.aH, .ref a.aF, .ref a.aG, .int (nI ((st.va + 1) + 1)), .ref a.aR, .int (nI (st.co + 2)), .ref a.aL, .ref a.aT, .ref a.aO, .ref a.aB, .ref a.aW, .int (nI st.sv), .int (nI st.kn), .int (nI st.kc)])) := by rw [E59]; rfl
  have h61 : w58[8]? = some (a.aL, aI G 60 (rI st.L)) := by rw [E59]; rfl
  have h62 : w58[10]? = some (a.aO, aI G 60 (rI u52)) := by rw [E59]; rfl
  refine lv_aload_n hx hb d_M_same_92 rfl (lv_at hl 3 rfl) ?_
  refine va_get (D := xD G) (ci := 5) (C := R_M) (T := F_M) (N := 19) hx hb ht in_M hown hK hP 0 h60 rfl 11 (by decide) (ht _ k_fl_M_35) (fun _ h9 => h9) rfl d_M_same_93 ?_
  refine lv_iload hx hb d_M_same_96 (lv_at hl 0 rfl) ?_
  refine x_callv (va_runS (As := [.ref a.aL, .int (nI (st.va + 1))]) (rest := []) ⟨hx, hb, hml, hown, ht⟩ (c_M_one l G A w58 8 a.aL st.L h61 (st.va + 1) (by omega)) (va_cwS 2 ht (TW_S k_ml_M_83 k_st_M_one k_in_M k_code_M_one) rfl rfl rfl hv_M_one.2 ⟨Nat.le_of_ble_eq_true rfl, Nat.le_of_ble_eq_true rfl⟩) ⟨x_blind, x_pre hE hA hS hP hD⟩ rfl rfl hl.1 rfl (lv_room (Nat.le_of_ble_eq_true rfl)) d_M_same_98 ⟨Nat.le_of_ble_eq_true rfl, Nat.le_of_ble_eq_true rfl⟩) hS (fun w64 H locs q63 hP hD hS => ?_)
  have q63 : w64 = w58.set 8 (a.aL, aI G 60 (rI (ovb 60 0 st.L (unit (st.va + 1))))) := q63
  obtain ⟨u65, e_u65⟩ : ∃ zz : Nat → Nat, zz = ovb 60 0 st.L (unit (st.va + 1)) := ⟨_, rfl⟩
  rw [← e_u65] at q63
  have h_u65 : ∀ j, j < 60 → u65 j = unit (st.va + 1) j := fun j hj => by rw [e_u65, ovb_at hj]
  have E66 : w64 = mW G a (⟨st.th, st.ex, ((st.va + 1) + 1), st.co + 2, st.sv, st.kn, st.kc, st.S, st.Kd, st.In, (va_up (va_up st.Hw st.va 3) (st.va + 1) 4), (va_up (va_up st.Fr st.va st.co) (st.va + 1) st.co), (va_up (va_up st.Gn st.va 0) (st.va + 1) 0), (ovb 60 (180 * st.co + 60 * 1) (ovb 60 (180 * (st.co + 1) + 60 * 0) (ovb 60 (180 * st.co + 60 * 0) st.R u33) u33) u52), u65, st.T, u52, st.B, st.W⟩ : MS) := by rw [q63, E59]; rfl
  have h67 : w64[0]? = some (a.m, .inr (5, [.int (nI st.th), .ref a.aS, .ref a.aK, .ref a.aI, .int (nI st.ex), .ref a.aH, .ref a.aF, .ref a.aG, .int (nI ((st.va + 1) + 1)), .ref a.aR, .int (nI (st.co + 2)), .ref a.aL, .ref a.aT, .ref a.aO, .ref a.aB, .ref a.aW, .int (nI st.sv), .int (nI st.kn), .int (nI st.kc)])) := by rw [E66]; rfl
  have h68 : w64[8]? = some (a.aL, aI G 60 (rI u65)) := by rw [E66]; rfl
  have h69 : w64[10]? = some (a.aO, aI G 60 (rI u52)) := by rw [E66]; rfl
  refine lv_aload_n hx hb d_M_same_101 rfl (lv_at hl 3 rfl) ?_
  refine lv_iload_n hx hb d_M_same_102 rfl (lv_at hl 2 rfl) ?_
  refine lv_iconst (v := (nI 1)) hx hb d_M_same_103 (by decide) ?_
  refine lv_iadd hx hb d_M_same_104 ?_
  refine x_top (nI (st.co + 1)) (nI_add _ _) ?_
  refine lv_iconst (v := (nI 1)) hx hb d_M_same_105 (by decide) ?_
  refine lv_aload_n hx hb d_M_same_106 rfl (lv_at hl 3 rfl) ?_
  refine va_get (D := xD G) (ci := 5) (C := R_M) (T := F_M) (N := 19) hx hb ht in_M hown hK hP 0 h67 rfl 11 (by decide) (ht _ k_fl_M_35) (fun _ h9 => h9) rfl d_M_same_107 ?_
  refine x_callv (va_runV (As := [.int (nI (st.co + 1)), .int (nI 1), .ref a.aL]) (rest := []) ⟨hx, hb, hml, hown, ht⟩ (c_M_keep l G A w64 a (⟨st.th, st.ex, ((st.va + 1) + 1), st.co + 2, st.sv, st.kn, st.kc, st.S, st.Kd, st.In, (va_up (va_up st.Hw st.va 3) (st.va + 1) 4), (va_up (va_up st.Fr st.va st.co) (st.va + 1) st.co), (va_up (va_up st.Gn st.va 0) (st.va + 1) 0), (ovb 60 (180 * st.co + 60 * 1) (ovb 60 (180 * (st.co + 1) + 60 * 0) (ovb 60 (180 * st.co + 60 * 0) st.R u33) u33) u52), u65, st.T, u52, st.B, st.W⟩ : MS) E66 8 a.aL u65 h68 (by decide) (st.co + 1) 1 (by omega) (by decide)) (cwV 3 ht (TW_V k_ml_M_79 k_im_M_keep k_se_M_keep k_in_M k_code_M_keep) rfl rfl rfl hv_M_keep ⟨Nat.le_of_ble_eq_true rfl, Nat.le_of_ble_eq_true rfl⟩) ⟨x_blind, va_recv hK hP rfl h67, x_pre hE hA hS hP hD⟩ rfl rfl hl.1 rfl (lv_room (Nat.le_of_ble_eq_true rfl)) d_M_same_110 ⟨Nat.le_of_ble_eq_true rfl, Nat.le_of_ble_eq_true rfl⟩) hS (fun w71 H locs q70 hP hD hS => ?_)
  have E72 : w71 = mW G a (⟨st.th, st.ex, ((st.va + 1) + 1), st.co + 2, st.sv, st.kn, st.kc, st.S, st.Kd, st.In, (va_up (va_up st.Hw st.va 3) (st.va + 1) 4), (va_up (va_up st.Fr st.va st.co) (st.va + 1) st.co), (va_up (va_up st.Gn st.va 0) (st.va + 1) 0), (ovb 60 (180 * (st.co + 1) + 60 * 1) (ovb 60 (180 * st.co + 60 * 1) (ovb 60 (180 * (st.co + 1) + 60 * 0) (ovb 60 (180 * st.co + 60 * 0) st.R u33) u33) u52) u65), u65, st.T, u52, st.B, st.W⟩ : MS) := by rw [q70, E66]; rfl
  have h73 : w71[0]? = some (a.m, .inr (5, [.int (nI st.th), .ref a.aS, .ref a.aK, .ref a.aI, .int (nI st.ex), .ref a.aH, .ref a.aF, .ref a.aG, .int (nI ((st.va + 1) + 1)), .ref a.aR, .int (nI (st.co + 2)), .ref a.aL, .ref a.aT, .ref a.aO, .ref a.aB, .ref a.aW, .int (nI st.sv), .int (nI st.kn), .int (nI st.kc)])) := by rw [E72]; rfl
  have h74 : w71[8]? = some (a.aL, aI G 60 (rI u65)) := by rw [E72]; rfl
  have h75 : w71[10]? = some (a.aO, aI G 60 (rI u52)) := by rw [E72]; rfl
  refine lv_aload_n hx hb d_M_same_113 rfl (lv_at hl 3 rfl) ?_
  refine va_get (D := xD G) (ci := 5) (C := R_M) (T := F_M) (N := 19) hx hb ht in_M hown hK hP 0 h73 rfl 13 (by decide) (ht _ k_fl_M_41) (fun _ h9 => h9) rfl d_M_same_114 ?_
  refine lv_iconst (v := (nI 1)) hx hb d_M_same_117 (by decide) ?_
  refine x_callv (va_runS (As := [.ref a.aO, .int (nI 1)]) (rest := []) ⟨hx, hb, hml, hown, ht⟩ (c_M_number l G A w71 10 a.aO u52 h75 (nI 1)) (va_cwS 2 ht (TW_S k_ml_M_64 k_st_M_number k_in_M k_code_M_number) rfl rfl rfl hv_M_number.2 ⟨Nat.le_of_ble_eq_true rfl, Nat.le_of_ble_eq_true rfl⟩) ⟨x_blind, x_pre hE hA hS hP hD⟩ rfl rfl hl.1 rfl (lv_room (Nat.le_of_ble_eq_true rfl)) d_M_same_118 ⟨Nat.le_of_ble_eq_true rfl, Nat.le_of_ble_eq_true rfl⟩) hS (fun w77 H locs q76 hP hD hS => ?_)
  have q76 : w77 = w71.set 10 (a.aO, aI G 60 (rI (ovb 60 0 u52 (nmb (rm (nI 1)))))) := q76
  obtain ⟨u78, e_u78⟩ : ∃ zz : Nat → Nat, zz = ovb 60 0 u52 (nmb (rm (nI 1))) := ⟨_, rfl⟩
  rw [← e_u78] at q76
  have h_u78 : ∀ j, j < 60 → u78 j = unit 0 j := fun j hj => by rw [e_u78, ovb_at hj]; exact nmb1 j
  have E79 : w77 = mW G a (⟨st.th, st.ex, ((st.va + 1) + 1), st.co + 2, st.sv, st.kn, st.kc, st.S, st.Kd, st.In, (va_up (va_up st.Hw st.va 3) (st.va + 1) 4), (va_up (va_up st.Fr st.va st.co) (st.va + 1) st.co), (va_up (va_up st.Gn st.va 0) (st.va + 1) 0), (ovb 60 (180 * (st.co + 1) + 60 * 1) (ovb 60 (180 * st.co + 60 * 1) (ovb 60 (180 * (st.co + 1) + 60 * 0) (ovb 60 (180 * st.co + 60 * 0) st.R u33) u33) u52) u65), u65, st.T, u78, st.B, st.W⟩ : MS) := by rw [q76, E72]; rfl
  have h80 : w77[0]? = some (a.m, .inr (5, [.int (nI st.th), .ref a.aS, .ref a.aK, .ref a.aI, .int (nI st.ex), .ref a.aH, .ref a.aF, .ref a.aG, .int (nI ((st.va + 1) + 1)), .ref a.aR, .int (nI (st.co + 2)), .ref a.aL, .ref a.aT, .ref a.aO, .ref a.aB, .ref a.aW, .int (nI st.sv), .int (nI st.kn), .int (nI st.kc)])) := by rw [E79]; rfl
  have h81 : w77[8]? = some (a.aL, aI G 60 (rI u65)) := by rw [E79]; rfl
  have h82 : w77[10]? = some (a.aO, aI G 60 (rI u78)) := by rw [E79]; rfl
  refine lv_aload_n hx hb d_M_same_121 rfl (lv_at hl 3 rfl) ?_
  refine va_get (D := xD G) (ci := 5) (C := R_M) (T := F_M) (N := 19) hx hb ht in_M hown hK hP 0 h80 rfl 13 (by decide) (ht _ k_fl_M_41) (fun _ h9 => h9) rfl d_M_same_122 ?_
  refine lv_iload hx hb d_M_same_125 (lv_at hl 0 rfl) ?_
  refine lv_bipush (v := (nI 96)) hx hb d_M_same_127 (by decide) ?_
  refine x_iast hx hb hK hP hD hS h82 (st.va + 1) rfl (by omega) (by omega) d_M_same_129 (fun H locs hP hD hS => ?_)
  have hP : va_P (xD G) CL (w77.set 10 (a.aO, aI G 60 (upd (rI u78) (st.va + 1) (nI 96)))) H := hP
  have hD : va_D A (w77.set 10 (a.aO, aI G 60 (upd (rI u78) (st.va + 1) (nI 96)))) := hD
  obtain ⟨w83, e_w83⟩ : ∃ zz : va_W, zz = w77.set 10 (a.aO, aI G 60 (upd (rI u78) (st.va + 1) (nI 96))) := ⟨_, rfl⟩
  rw [← e_w83] at hP hD
  have h84 : w83[10]? = some (a.aO, aI G 60 (upd (rI u78) (st.va + 1) (nI 96))) := by rw [e_w83]; exact w_eq h82
  have E85 : w83 = mW G a (⟨st.th, st.ex, ((st.va + 1) + 1), st.co + 2, st.sv, st.kn, st.kc, st.S, st.Kd, st.In, (va_up (va_up st.Hw st.va 3) (st.va + 1) 4), (va_up (va_up st.Fr st.va st.co) (st.va + 1) st.co), (va_up (va_up st.Gn st.va 0) (st.va + 1) 0), (ovb 60 (180 * (st.co + 1) + 60 * 1) (ovb 60 (180 * st.co + 60 * 1) (ovb 60 (180 * (st.co + 1) + 60 * 0) (ovb 60 (180 * st.co + 60 * 0) st.R u33) u33) u52) u65), u65, st.T, (va_up u78 (st.va + 1) 96), st.B, st.W⟩ : MS) := by rw [e_w83, E79, up_rI]; rfl
  have h86 : w83[0]? = some (a.m, .inr (5, [.int (nI st.th), .ref a.aS, .ref a.aK, .ref a.aI, .int (nI st.ex), .ref a.aH, .ref a.aF, .ref a.aG, .int (nI ((st.va + 1) + 1)), .ref a.aR, .int (nI (st.co + 2)), .ref a.aL, .ref a.aT, .ref a.aO, .ref a.aB, .ref a.aW, .int (nI st.sv), .int (nI st.kn), .int (nI st.kc)])) := by rw [E85]; rfl
  have h87 : w83[8]? = some (a.aL, aI G 60 (rI u65)) := by rw [E85]; rfl
  have h88 : w83[10]? = some (a.aO, aI G 60 (rI (va_up u78 (st.va + 1) 96))) := by rw [E85]; rfl
  have h_o6 : ∀ j, j < 60 → (va_up u78 (st.va + 1) 96) j = cmb 1 (unit 0) 96 (unit (V.length + 1)) j := fun j hj => by unfold va_up cmb; rw [← hva]; by_cases q : j = st.va + 1; subst q; rw [if_pos rfl, unit_0 (show st.va + 1 ≠ 0 by omega)]; unfold unit; rw [if_pos rfl]; rw [if_neg q, h_u78 j hj, unit_0 q]; have := unit_lt 0 j; omega
  refine lv_aload_n hx hb d_M_same_130 rfl (lv_at hl 3 rfl) ?_
  refine lv_iload_n hx hb d_M_same_131 rfl (lv_at hl 2 rfl) ?_
  refine lv_iconst (v := (nI 2)) hx hb d_M_same_132 (by decide) ?_
  refine lv_aload_n hx hb d_M_same_133 rfl (lv_at hl 3 rfl) ?_
  refine va_get (D := xD G) (ci := 5) (C := R_M) (T := F_M) (N := 19) hx hb ht in_M hown hK hP 0 h86 rfl 13 (by decide) (ht _ k_fl_M_41) (fun _ h9 => h9) rfl d_M_same_134 ?_
  refine x_callv (va_runV (As := [.int (nI st.co), .int (nI 2), .ref a.aO]) (rest := []) ⟨hx, hb, hml, hown, ht⟩ (c_M_keep l G A w83 a (⟨st.th, st.ex, ((st.va + 1) + 1), st.co + 2, st.sv, st.kn, st.kc, st.S, st.Kd, st.In, (va_up (va_up st.Hw st.va 3) (st.va + 1) 4), (va_up (va_up st.Fr st.va st.co) (st.va + 1) st.co), (va_up (va_up st.Gn st.va 0) (st.va + 1) 0), (ovb 60 (180 * (st.co + 1) + 60 * 1) (ovb 60 (180 * st.co + 60 * 1) (ovb 60 (180 * (st.co + 1) + 60 * 0) (ovb 60 (180 * st.co + 60 * 0) st.R u33) u33) u52) u65), u65, st.T, (va_up u78 (st.va + 1) 96), st.B, st.W⟩ : MS) E85 10 a.aO (va_up u78 (st.va + 1) 96) h88 (by decide) st.co 2 (by omega) (by decide)) (cwV 3 ht (TW_V k_ml_M_79 k_im_M_keep k_se_M_keep k_in_M k_code_M_keep) rfl rfl rfl hv_M_keep ⟨Nat.le_of_ble_eq_true rfl, Nat.le_of_ble_eq_true rfl⟩) ⟨x_blind, va_recv hK hP rfl h86, x_pre hE hA hS hP hD⟩ rfl rfl hl.1 rfl (lv_room (Nat.le_of_ble_eq_true rfl)) d_M_same_137 ⟨Nat.le_of_ble_eq_true rfl, Nat.le_of_ble_eq_true rfl⟩) hS (fun w90 H locs q89 hP hD hS => ?_)
  have E91 : w90 = mW G a (⟨st.th, st.ex, ((st.va + 1) + 1), st.co + 2, st.sv, st.kn, st.kc, st.S, st.Kd, st.In, (va_up (va_up st.Hw st.va 3) (st.va + 1) 4), (va_up (va_up st.Fr st.va st.co) (st.va + 1) st.co), (va_up (va_up st.Gn st.va 0) (st.va + 1) 0), (ovb 60 (180 * st.co + 60 * 2) (ovb 60 (180 * (st.co + 1) + 60 * 1) (ovb 60 (180 * st.co + 60 * 1) (ovb 60 (180 * (st.co + 1) + 60 * 0) (ovb 60 (180 * st.co + 60 * 0) st.R u33) u33) u52) u65) (va_up u78 (st.va + 1) 96)), u65, st.T, (va_up u78 (st.va + 1) 96), st.B, st.W⟩ : MS) := by rw [q89, E85]; rfl
  have h92 : w90[0]? = some (a.m, .inr (5, [.int (nI st.th), .ref a.aS, .ref a.aK, .ref a.aI, .int (nI st.ex), .ref a.aH, .ref a.aF, .ref a.aG, .int (nI ((st.va + 1) + 1)), .ref a.aR, .int (nI (st.co + 2)), .ref a.aL, .ref a.aT, .ref a.aO, .ref a.aB, .ref a.aW, .int (nI st.sv), .int (nI st.kn), .int (nI st.kc)])) := by rw [E91]; rfl
  have h93 : w90[8]? = some (a.aL, aI G 60 (rI u65)) := by rw [E91]; rfl
  have h94 : w90[10]? = some (a.aO, aI G 60 (rI (va_up u78 (st.va + 1) 96))) := by rw [E91]; rfl
  refine lv_aload_n hx hb d_M_same_140 rfl (lv_at hl 3 rfl) ?_
  refine va_get (D := xD G) (ci := 5) (C := R_M) (T := F_M) (N := 19) hx hb ht in_M hown hK hP 0 h92 rfl 13 (by decide) (ht _ k_fl_M_41) (fun _ h9 => h9) rfl d_M_same_141 ?_
  refine lv_iconst (v := (nI 0)) hx hb d_M_same_144 (by decide) ?_
  refine x_callv (va_runS (As := [.ref a.aO, .int (nI 0)]) (rest := []) ⟨hx, hb, hml, hown, ht⟩ (c_M_number l G A w90 10 a.aO (va_up u78 (st.va + 1) 96) h94 (nI 0)) (va_cwS 2 ht (TW_S k_ml_M_64 k_st_M_number k_in_M k_code_M_number) rfl rfl rfl hv_M_number.2 ⟨Nat.le_of_ble_eq_true rfl, Nat.le_of_ble_eq_true rfl⟩) ⟨x_blind, x_pre hE hA hS hP hD⟩ rfl rfl hl.1 rfl (lv_room (Nat.le_of_ble_eq_true rfl)) d_M_same_145 ⟨Nat.le_of_ble_eq_true rfl, Nat.le_of_ble_eq_true rfl⟩) hS (fun w96 H locs q95 hP hD hS => ?_)
  have q95 : w96 = w90.set 10 (a.aO, aI G 60 (rI (ovb 60 0 (va_up u78 (st.va + 1) 96) (nmb (rm (nI 0)))))) := q95
  obtain ⟨u97, e_u97⟩ : ∃ zz : Nat → Nat, zz = ovb 60 0 (va_up u78 (st.va + 1) 96) (nmb (rm (nI 0))) := ⟨_, rfl⟩
  rw [← e_u97] at q95
  have h_u97 : ∀ j, j < 60 → u97 j = zr j := fun j hj => by rw [e_u97, ovb_at hj]; exact nmb0 j
  have E98 : w96 = mW G a (⟨st.th, st.ex, ((st.va + 1) + 1), st.co + 2, st.sv, st.kn, st.kc, st.S, st.Kd, st.In, (va_up (va_up st.Hw st.va 3) (st.va + 1) 4), (va_up (va_up st.Fr st.va st.co) (st.va + 1) st.co), (va_up (va_up st.Gn st.va 0) (st.va + 1) 0), (ovb 60 (180 * st.co + 60 * 2) (ovb 60 (180 * (st.co + 1) + 60 * 1) (ovb 60 (180 * st.co + 60 * 1) (ovb 60 (180 * (st.co + 1) + 60 * 0) (ovb 60 (180 * st.co + 60 * 0) st.R u33) u33) u52) u65) (va_up u78 (st.va + 1) 96)), u65, st.T, u97, st.B, st.W⟩ : MS) := by rw [q95, E91]; rfl
  have h99 : w96[0]? = some (a.m, .inr (5, [.int (nI st.th), .ref a.aS, .ref a.aK, .ref a.aI, .int (nI st.ex), .ref a.aH, .ref a.aF, .ref a.aG, .int (nI ((st.va + 1) + 1)), .ref a.aR, .int (nI (st.co + 2)), .ref a.aL, .ref a.aT, .ref a.aO, .ref a.aB, .ref a.aW, .int (nI st.sv), .int (nI st.kn), .int (nI st.kc)])) := by rw [E98]; rfl
  have h100 : w96[8]? = some (a.aL, aI G 60 (rI u65)) := by rw [E98]; rfl
  have h101 : w96[10]? = some (a.aO, aI G 60 (rI u97)) := by rw [E98]; rfl
  refine lv_aload_n hx hb d_M_same_148 rfl (lv_at hl 3 rfl) ?_
  refine lv_iload_n hx hb d_M_same_149 rfl (lv_at hl 2 rfl) ?_
  refine lv_iconst (v := (nI 1)) hx hb d_M_same_150 (by decide) ?_
  refine lv_iadd hx hb d_M_same_151 ?_
  refine x_top (nI (st.co + 1)) (nI_add _ _) ?_
  refine lv_iconst (v := (nI 2)) hx hb d_M_same_152 (by decide) ?_
  refine lv_aload_n hx hb d_M_same_153 rfl (lv_at hl 3 rfl) ?_
  refine va_get (D := xD G) (ci := 5) (C := R_M) (T := F_M) (N := 19) hx hb ht in_M hown hK hP 0 h99 rfl 13 (by decide) (ht _ k_fl_M_41) (fun _ h9 => h9) rfl d_M_same_154 ?_
  refine x_callv (va_runV (As := [.int (nI (st.co + 1)), .int (nI 2), .ref a.aO]) (rest := []) ⟨hx, hb, hml, hown, ht⟩ (c_M_keep l G A w96 a (⟨st.th, st.ex, ((st.va + 1) + 1), st.co + 2, st.sv, st.kn, st.kc, st.S, st.Kd, st.In, (va_up (va_up st.Hw st.va 3) (st.va + 1) 4), (va_up (va_up st.Fr st.va st.co) (st.va + 1) st.co), (va_up (va_up st.Gn st.va 0) (st.va + 1) 0), (ovb 60 (180 * st.co + 60 * 2) (ovb 60 (180 * (st.co + 1) + 60 * 1) (ovb 60 (180 * st.co + 60 * 1) (ovb 60 (180 * (st.co + 1) + 60 * 0) (ovb 60 (180 * st.co + 60 * 0) st.R u33) u33) u52) u65) (va_up u78 (st.va + 1) 96)), u65, st.T, u97, st.B, st.W⟩ : MS) E98 10 a.aO u97 h101 (by decide) (st.co + 1) 2 (by omega) (by decide)) (cwV 3 ht (TW_V k_ml_M_79 k_im_M_keep k_se_M_keep k_in_M k_code_M_keep) rfl rfl rfl hv_M_keep ⟨Nat.le_of_ble_eq_true rfl, Nat.le_of_ble_eq_true rfl⟩) ⟨x_blind, va_recv hK hP rfl h99, x_pre hE hA hS hP hD⟩ rfl rfl hl.1 rfl (lv_room (Nat.le_of_ble_eq_true rfl)) d_M_same_157 ⟨Nat.le_of_ble_eq_true rfl, Nat.le_of_ble_eq_true rfl⟩) hS (fun w103 H locs q102 hP hD hS => ?_)
  have E104 : w103 = mW G a (⟨st.th, st.ex, ((st.va + 1) + 1), st.co + 2, st.sv, st.kn, st.kc, st.S, st.Kd, st.In, (va_up (va_up st.Hw st.va 3) (st.va + 1) 4), (va_up (va_up st.Fr st.va st.co) (st.va + 1) st.co), (va_up (va_up st.Gn st.va 0) (st.va + 1) 0), (ovb 60 (180 * (st.co + 1) + 60 * 2) (ovb 60 (180 * st.co + 60 * 2) (ovb 60 (180 * (st.co + 1) + 60 * 1) (ovb 60 (180 * st.co + 60 * 1) (ovb 60 (180 * (st.co + 1) + 60 * 0) (ovb 60 (180 * st.co + 60 * 0) st.R u33) u33) u52) u65) (va_up u78 (st.va + 1) 96)) u97), u65, st.T, u97, st.B, st.W⟩ : MS) := by rw [q102, E98]; rfl
  have h105 : w103[0]? = some (a.m, .inr (5, [.int (nI st.th), .ref a.aS, .ref a.aK, .ref a.aI, .int (nI st.ex), .ref a.aH, .ref a.aF, .ref a.aG, .int (nI ((st.va + 1) + 1)), .ref a.aR, .int (nI (st.co + 2)), .ref a.aL, .ref a.aT, .ref a.aO, .ref a.aB, .ref a.aW, .int (nI st.sv), .int (nI st.kn), .int (nI st.kc)])) := by rw [E104]; rfl
  have h106 : w103[8]? = some (a.aL, aI G 60 (rI u65)) := by rw [E104]; rfl
  have h107 : w103[10]? = some (a.aO, aI G 60 (rI u97)) := by rw [E104]; rfl
  obtain ⟨k1, ek1⟩ : ∃ zz : KK, zz = (cmb 1 (sE E ja) 96 (sE E jb), unit V.length, cmb 1 (unit 0) 96 (unit (V.length + 1))) := ⟨_, rfl⟩
  obtain ⟨k2, ek2⟩ : ∃ zz : KK, zz = (cmb 1 (sE E ja) 96 (sE E jb), unit (V.length + 1), zr) := ⟨_, rfl⟩
  obtain ⟨v1, ev1⟩ : ∃ zz : VV, zz = (4, cmb 1 (sE E ja) 96 (sE E jb), zr, 0) := ⟨_, rfl⟩
  obtain ⟨v2, ev2⟩ : ∃ zz : VV, zz = (5, cmb 1 (sE E ja) 96 (sE E jb), zr, 0) := ⟨_, rfl⟩
  have l1 : (K ++ [k1]).length = K.length + 1 := by simp
  have l2 : (V ++ [v1] ++ [v2]).length = V.length + 2 := by simp
  have l3 : (V ++ [v1]).length = V.length + 1 := by simp
  have l4 : (K ++ [k1] ++ [k2]).length = K.length + 2 := by simp
  have rk1 : RK (V.length + 2) (st.co + 1) (ovb 60 (180 * (st.co + 1) + 60 * 2) (ovb 60 (180 * st.co + 60 * 2) (ovb 60 (180 * (st.co + 1) + 60 * 1) (ovb 60 (180 * st.co + 60 * 1) (ovb 60 (180 * (st.co + 1) + 60 * 0) (ovb 60 (180 * st.co + 60 * 0) st.R u33) u33) u52) u65) (va_up u78 (st.va + 1) 96)) u97) (K ++ [k1]) := hM.1.add (by omega) (fun c t j hc ht9 hj => by rw [ovb_out (by omega), ovb_out (by omega), ovb_out (by omega), ovb_out (by omega), ovb_out (by omega), ovb_out (by omega)]) (fun t j ht9 hj => by
    have t9 : t = 0 ∨ t = 1 ∨ t = 2 := by omega
    rw [ek1]
    rcases t9 with rfl | rfl | rfl
    · exact ⟨by rw [ovb_out (by omega), ovb_out (by omega), ovb_out (by omega), ovb_out (by omega), ovb_out (by omega), ovb_hit (j := j) (by omega) hj]; exact h_u33 j hj, cmb_lt j, fun q => (show cmb 1 (sE E ja) 96 (sE E jb) j = 0 from (by simp [cmb, hS7 ja j ga (by omega) hj, hS7 jb j gb (by omega) hj]))⟩
    · exact ⟨by rw [ovb_out (by omega), ovb_out (by omega), ovb_out (by omega), ovb_hit (j := j) (by omega) hj]; exact (h_u52 j hj).trans (by rw [hva]; rfl), unit_lt _ _, fun q => unit_0 (by omega)⟩
    · exact ⟨by rw [ovb_out (by omega), ovb_hit (j := j) (by omega) hj]; exact h_o6 j hj, cmb_lt j, fun q => (show cmb 1 (unit 0) 96 (unit (V.length + 1)) j = 0 by unfold cmb; rw [unit_0 (by omega), unit_0 (by omega)])⟩)
  have rk2 : RK (V.length + 2) (st.co + 2) (ovb 60 (180 * (st.co + 1) + 60 * 2) (ovb 60 (180 * st.co + 60 * 2) (ovb 60 (180 * (st.co + 1) + 60 * 1) (ovb 60 (180 * st.co + 60 * 1) (ovb 60 (180 * (st.co + 1) + 60 * 0) (ovb 60 (180 * st.co + 60 * 0) st.R u33) u33) u52) u65) (va_up u78 (st.va + 1) 96)) u97) (K ++ [k1] ++ [k2]) := rk1.add (Nat.le_refl _) (fun c t j hc ht9 hj => rfl) (fun t j ht9 hj => by
    have t9 : t = 0 ∨ t = 1 ∨ t = 2 := by omega
    rw [ek2, l1]
    rcases t9 with rfl | rfl | rfl
    · exact ⟨by rw [ovb_out (by omega), ovb_out (by omega), ovb_out (by omega), ovb_out (by omega), ovb_hit (j := j) (by omega) hj]; exact h_u33 j hj, cmb_lt j, fun q => (show cmb 1 (sE E ja) 96 (sE E jb) j = 0 from (by simp [cmb, hS7 ja j ga (by omega) hj, hS7 jb j gb (by omega) hj]))⟩
    · exact ⟨by rw [ovb_out (by omega), ovb_out (by omega), ovb_hit (j := j) (by omega) hj]; exact (h_u65 j hj).trans (by rw [hva]; rfl), unit_lt _ _, fun q => unit_0 (by omega)⟩
    · exact ⟨by rw [ovb_hit (j := j) (by omega) hj]; exact h_u97 j hj, (by decide : 0 < 97), fun q => rfl⟩)
  have a1 : kAt (K ++ [k1] ++ [k2]) st.co = k1 := by rw [hco, kAt_app (by omega), kAt_new]
  have a2 : kAt (K ++ [k1] ++ [k2]) (st.co + 1) = k2 := by rw [hco, ← l1, kAt_new]
  have rv1 := RV.add (x := v1) (y := 3) (c := st.co) ((hM.2.1.mono (x := k1)).mono (x := k2)) (by rw [ev1]) (by decide) (by rw [ev1]) (fun _ => ⟨by omega, by rw [a1, ev1, ek1]; exact fun _ _ => rfl, by rw [ev1]; exact fun j h1 hj => (by simp [cmb, hS7 ja j ga (by omega) hj, hS7 jb j gb (by omega) hj]), fun q => absurd q (by decide)⟩)
  have rv2 := RV.add (x := v2) (y := 4) (c := st.co) rv1 (by rw [ev2]) (by decide) (by rw [ev2]) (fun _ => ⟨by omega, by rw [a1, ev2, ek1]; exact fun _ _ => rfl, by rw [ev2, l3]; exact fun j h1 hj => (by simp [cmb, hS7 ja j ga (by omega) hj, hS7 jb j gb (by omega) hj]), fun q => absurd q (by decide)⟩)
  have rel : MRel (⟨st.th, st.ex, ((st.va + 1) + 1), st.co + 2, st.sv, st.kn, st.kc, st.S, st.Kd, st.In, (va_up (va_up st.Hw st.va 3) (st.va + 1) 4), (va_up (va_up st.Fr st.va st.co) (st.va + 1) st.co), (va_up (va_up st.Gn st.va 0) (st.va + 1) 0), (ovb 60 (180 * (st.co + 1) + 60 * 2) (ovb 60 (180 * st.co + 60 * 2) (ovb 60 (180 * (st.co + 1) + 60 * 1) (ovb 60 (180 * st.co + 60 * 1) (ovb 60 (180 * (st.co + 1) + 60 * 0) (ovb 60 (180 * st.co + 60 * 0) st.R u33) u33) u52) u65) (va_up u78 (st.va + 1) 96)) u97), u65, st.T, u97, st.B, st.W⟩ : MS) (V ++ [v1] ++ [v2]) E (K ++ [k1] ++ [k2]) inp w wV wC := ⟨by rw [l2]; exact rk2, rv2, by rw [l2]; exact hM.2.2.1.mono (by omega), (hM.2.2.2.mono (x := k1)).mono⟩
  have e7 : sameS (V, K) (cmb 1 (sE E ja) 96 (sE E jb)) = ((V ++ [v1] ++ [v2], K ++ [k1] ++ [k2]), unit (V.length + 1)) := by rw [ek1, ek2, ev1, ev2]; unfold sameS; simp only [List.length_append, List.length_singleton]
  have e8 : ∀ j, j < 60 → u65 j = unit (V.length + 1) j := fun j hj => by rw [h_u65 j hj, hva]
  exact x_vret hx hb hr hlocks hS hP hD (Nat.le_of_ble_eq_true rfl) (Nat.le_of_ble_eq_true rfl) d_M_same_160 (⟨_, E104, by rw [e7]; exact rel, by rw [e7]; exact e8, by rw [e7]; intro j h1 hj; exact unit_0 (by rw [l2] at h1; omega), rfl⟩)
