theorem vAt_set {V : List VV} {i j : Nat} {x : VV} (hi : i < V.length) : vAt (V.set i x) j = if j = i then x else vAt V j := by
  unfold vAt
  rw [List.getD_eq_getElem?_getD, List.getD_eq_getElem?_getD]
  by_cases h : j = i
  · subst h
    rw [if_pos rfl, List.getElem?_set_self hi]
    rfl
  · rw [if_neg h, List.getElem?_set_ne (fun e => h e.symm)]
theorem RV.set {va i v : Nat} {Hw Fr Gn : Nat → Nat} {V : List VV} {K : List KK} (h : RV va Hw Fr Gn V K) (h1 : 1 ≤ i) (h2 : i < V.length) (hv : v < 97) : RV va Hw Fr (va_up Gn i v) (V.set i (gv (vAt V i) v)) K := by
  obtain ⟨e, e1, e2, g⟩ := h
  refine ⟨by rw [List.length_set]; exact e, by rw [List.length_set]; exact e1, by rw [vAt_set h2, if_neg (by omega)]; exact e2, fun j j1 j2 => ?_⟩
  rw [List.length_set] at j2
  rw [vAt_set h2]
  by_cases q : j = i
  · subst q
    rw [if_pos rfl, up_at]
    obtain ⟨g1, g2, g3, g4, g5⟩ := g j j1 j2
    exact ⟨g1, g2, rfl, hv, g5⟩
  · have e9 : va_up Gn i v j = Gn j := by unfold va_up; rw [if_neg q]
    rw [if_neg q, e9]
    exact g j j1 j2
theorem RW.put {sv kn kc wV wC v : Nat} {W w : Nat → Nat} {K : List KK} (h : RW sv kn kc W w wV wC K) (j : Nat) (hv : v < 97) : RW sv kn kc (va_up W j v) (va_up w j v) wV wC K := by
  obtain ⟨z1, z2, z3, z4, z5, z6, z8, z7⟩ := h
  refine ⟨z1, z2, z3, fun i hi => ?_, fun i hi => ?_, z6, z8, z7⟩
  · unfold va_up
    by_cases q : i = j
    · rw [if_pos q, if_pos q]
    · rw [if_neg q, if_neg q]; exact z4 i hi
  · unfold va_up
    by_cases q : i = j
    · rw [if_pos q]; exact hv
    · rw [if_neg q]; exact z5 i hi
theorem nz_congr {f g : Nat → Nat} : ∀ n, (∀ j, j < n → f j = g j) → nz f n = nz g n := by
  intro n
  induction n with
  | zero => intro _; rfl
  | succ n ih => intro h; show nz f n + _ = nz g n + _; rw [ih (fun j hj => h j (by omega)), h n (by omega)]

set_option maxHeartbeats 4000000 in
set_option maxRecDepth 100000 in
theorem m_give (l : Launch) (G : xG) (A : Nat → Prop) (ws : va_W) (a : MA) (st : MS) (hw : ws = mW G a st) (V : List VV) (E : List EE) (K : List KK) (inp : Nat) (w : Nat → Nat) (wV wC : Nat) (hM : MRel st V E K inp w wV wC) (hI : okI V E K inp wV wC) (x1 x2 : Int32) : Met l y_M_give (cw_M_give :: TW) { frames := 7, cells := 0, slots := 0, locals := 182 } (va_Pc [.ref a.m, .int x1, .int x2] (x_P G A ws)) (qI G A (fun r w9 => ∃ st' : MS, w9 = mW G a st' ∧ ((st'.th = 0 ∧ ∃ j, j < E.length ∧ x1 = nI j ∧ eI E j ≠ 0 ∧ r = nI (vAt V (eI E j)).2.2.2 ∧ MRel st' (V.set (eI E j) (gv (vAt V (eI E j)) (rm x2))) E K inp w wV wC) ∨ (st'.th = 1 ∧ (¬ md E.length x1) ∧ MRel st' V E K inp w wV wC) ∨ (st'.th = 2 ∧ (∃ j, j < E.length ∧ x1 = nI j ∧ eI E j = 0) ∧ MRel st' V E K inp w wV wC)))) 0 0 A := by
  refine Met.ofW (cc := b_M_give) (maxL := 4) (ret := (some .int)) (by decide) rfl ?_
  intro p e s m args below meth c s₁ B hml hv
  obtain ⟨rfl, hE, hA, hP, hD⟩ := hv
  have hx := B.exec
  have hb := B.bytes
  have hr := B.returns
  have ht : ∀ w ∈ TW, w.before _ s = true := fun w h => atoms_spec (ws := cw_M_give :: TW) B.pre w (List.mem_cons_of_mem _ h)
  have hown : s.vm.findClass R_M = some m.cls := findClass_of_methodNamed B.named
  have hlocks := B.notSynchronized
  have hK := hE.1
  have hS : va_S A s.heap s.heap [] := va_S.rf
  have hl := lv_entry ([.ref a.m, .int x1, .int x2]) (n := 4) (Nat.le_of_ble_eq_true rfl)
  rw [lg_entry_eq]
  generalize (lg_sl ([.ref a.m, .int x1, .int x2]) ++ List.replicate (4 - (lg_sl ([.ref a.m, .int x1, .int x2])).length) Slot.unset).toArray = ls at hl ⊢
  have hl : lv_has ls 4 [(0, .ref a.m), (1, .int x1), (2, .int x2)] := hl
  obtain ⟨i1, i2, i3, i4, i5, i6, i7, i8, i9⟩ := id hI
  have hco := hM.1.1
  have hva := hM.2.1.1
  have hex := hM.2.2.1.1
  have hS9 : ∀ e9 j, e9 < E.length → j < 60 → st.S (60 * e9 + j) = sE E e9 j := fun e9 j h1 h2 => (hM.2.2.1.2.1 e9 j h1 h2).1
  have hS8 : ∀ e9 j, e9 < E.length → j < 60 → sE E e9 j < 97 := fun e9 j h1 h2 => (hM.2.2.1.2.1 e9 j h1 h2).2.1
  have hS6 : ∀ e9, e9 < E.length → ∀ j, j < 60 → st.S (60 * e9 + j) < 97 := fun e9 h1 j h2 => by rw [hS9 e9 j h1 h2]; exact hS8 e9 j h1 h2
  have hS7 : ∀ e9 j, e9 < E.length → V.length ≤ j → j < 60 → sE E e9 j = 0 := fun e9 j h1 h3 h2 => (hM.2.2.1.2.1 e9 j h1 h2).2.2 h3
  have h1 : ws[0]? = some (a.m, .inr (5, [.int (nI st.th), .ref a.aS, .ref a.aK, .ref a.aI, .int (nI st.ex), .ref a.aH, .ref a.aF, .ref a.aG, .int (nI st.va), .ref a.aR, .int (nI st.co), .ref a.aL, .ref a.aT, .ref a.aO, .ref a.aB, .ref a.aW, .int (nI st.sv), .int (nI st.kn), .int (nI st.kc)])) := by rw [hw]; rfl
  refine lv_aload_n hx hb d_M_give_0 rfl (lv_at hl 0 rfl) ?_
  refine lv_iconst (v := (nI 0)) hx hb d_M_give_1 (by decide) ?_
  refine va_put (D := xD G) (ci := 5) (v := .int (nI 0)) (ty := .int) (C := R_M) (T := F_M) (N := 19) hx hb ht in_M ft_M fo_M nm_M hown hK hP hD hS 0 h1 rfl 0 (by decide) (ht _ k_fl_M_50) (fun _ h9 => h9) rfl (by decide +kernel) rfl rfl (Nat.le_of_ble_eq_true rfl) d_M_give_2 (fun H locs hP hD hS => ?_)
  have hP : va_P (xD G) CL (ws.set 0 (a.m, .inr (5, [.int (nI 0), .ref a.aS, .ref a.aK, .ref a.aI, .int (nI st.ex), .ref a.aH, .ref a.aF, .ref a.aG, .int (nI st.va), .ref a.aR, .int (nI st.co), .ref a.aL, .ref a.aT, .ref a.aO, .ref a.aB, .ref a.aW, .int (nI st.sv), .int (nI st.kn), .int (nI st.kc)]))) H := hP
  have hD : va_D A (ws.set 0 (a.m, .inr (5, [.int (nI 0), .ref a.aS, .ref a.aK, .ref a.aI, .int (nI st.ex), .ref a.aH, .ref a.aF, .ref a.aG, .int (nI st.va), .ref a.aR, .int (nI st.co), .ref a.aL, .ref a.aT, .ref a.aO, .ref a.aB, .ref a.aW, .int (nI st.sv), .int (nI st.kn), .int (nI st.kc)]))) := hD
  obtain ⟨w2, e_w2⟩ : ∃ zz : va_W, zz = ws.set 0 (a.m, .inr (5, [.int (nI 0), .ref a.aS, .ref a.aK, .ref a.aI, .int (nI st.ex), .ref a.aH, .ref a.aF, .ref a.aG, .int (nI st.va), .ref a.aR, .int (nI st.co), .ref a.aL, .ref a.aT, .ref a.aO, .ref a.aB, .ref a.aW, .int (nI st.sv), .int (nI st.kn), .int (nI st.kc)])) := ⟨_, rfl⟩
  rw [← e_w2] at hP hD
  have h3 : w2[0]? = some (a.m, .inr (5, [.int (nI 0), .ref a.aS, .ref a.aK, .ref a.aI, .int (nI st.ex), .ref a.aH, .ref a.aF, .ref a.aG, .int (nI st.va), .ref a.aR, .int (nI st.co), .ref a.aL, .ref a.aT, .ref a.aO, .ref a.aB, .ref a.aW, .int (nI st.sv), .int (nI st.kn), .int (nI st.kc)])) := by rw [e_w2]; exact w_eq h1
  have E4 : w2 = mW G a (⟨0, st.ex, st.va, st.co, st.sv, st.kn, st.kc, st.S, st.Kd, st.In, st.Hw, st.Fr, st.Gn, st.R, st.L, st.T, st.O, st.B, st.W⟩ : MS) := by rw [e_w2, hw]; rfl
  have h5 : w2[0]? = some (a.m, .inr (5, [.int (nI 0), .ref a.aS, .ref a.aK, .ref a.aI, .int (nI st.ex), .ref a.aH, .ref a.aF, .ref a.aG, .int (nI st.va), .ref a.aR, .int (nI st.co), .ref a.aL, .ref a.aT, .ref a.aO, .ref a.aB, .ref a.aW, .int (nI st.sv), .int (nI st.kn), .int (nI st.kc)])) := by rw [E4]; rfl
  have h6 : w2[2]? = some (a.aK, aI G 60 (rI st.Kd)) := by rw [E4]; rfl
  have h7 : w2[3]? = some (a.aI, aI G 60 (rI st.In)) := by rw [E4]; rfl
  have h8 : w2[6]? = some (a.aG, aI G 60 (rI st.Gn)) := by rw [E4]; rfl
  refine lv_aload_n hx hb d_M_give_5 rfl (lv_at hl 0 rfl) ?_
  refine lv_iload_n hx hb d_M_give_6 rfl (lv_at hl 1 rfl) ?_
  refine x_calli (va_runV (As := [.int x1]) (rest := []) ⟨hx, hb, hml, hown, ht⟩ (c_M_made l G A w2 a (⟨0, st.ex, st.va, st.co, st.sv, st.kn, st.kc, st.S, st.Kd, st.In, st.Hw, st.Fr, st.Gn, st.R, st.L, st.T, st.O, st.B, st.W⟩ : MS) E4 (show st.ex ≤ 60 by omega) x1) (cwV 1 ht (TW_V k_ml_M_86 k_im_M_made k_se_M_made k_in_M k_code_M_made) rfl rfl rfl hv_M_made ⟨Nat.le_of_ble_eq_true rfl, Nat.le_of_ble_eq_true rfl⟩) ⟨x_blind, va_recv hK hP rfl h5, x_pre hE hA hS hP hD⟩ rfl rfl hl.1 rfl (lv_room (Nat.le_of_ble_eq_true rfl)) d_M_give_7 ⟨Nat.le_of_ble_eq_true rfl, Nat.le_of_ble_eq_true rfl⟩) hS (fun r11 w10 H locs q9 hP hD hS => ?_)
  obtain ⟨rfl, ⟨rfl, m12⟩ | ⟨rfl, m12⟩⟩ := q9
  · have m12 : md E.length x1 := by rw [← hex]; exact m12
    refine x_if_ne hx hb 1 rfl (by decide) (tgt := 19) d_M_give_10 (by decide) (fun c13 => ?_) (fun c13 => ?_)
    rotate_left
    · exact False.elim (by omega)
    obtain ⟨ja, ga, rfl⟩ := id m12
    obtain ⟨g1, g2, g3, g4⟩ := hM.2.2.1.2.2.1 ja ga
    refine lv_aload_n hx hb d_M_give_19 rfl (lv_at hl 0 rfl) ?_
    refine va_get (D := xD G) (ci := 5) (C := R_M) (T := F_M) (N := 19) hx hb ht in_M hown hK hP 0 h5 rfl 2 (by decide) (ht _ k_fl_M_13) (fun _ h9 => h9) rfl d_M_give_20 ?_
    refine lv_iload_n hx hb d_M_give_23 rfl (lv_at hl 1 rfl) ?_
    refine x_iald hx hb hK hP h6 ja rfl (by omega) (by omega) d_M_give_24 ?_
    refine x_top (nI (st.Kd ja)) (rfl) ?_
    refine lv_iconst (v := (nI 1)) hx hb d_M_give_25 (by decide) ?_
    refine x_eq hx hb (st.Kd ja) 1 rfl rfl (by omega) (by omega) (tgt := 35) d_M_give_26 (by decide) (fun c14 => ?_) (fun c14 => ?_)
    · have e1 := g1.mp c14
      have e2 := g2 e1
      have e3 := hM.2.1.2.2.2 (eI E ja) (by omega) g4
      refine lv_aload_n hx hb d_M_give_35 rfl (lv_at hl 0 rfl) ?_
      refine va_get (D := xD G) (ci := 5) (C := R_M) (T := F_M) (N := 19) hx hb ht in_M hown hK hP 0 h5 rfl 7 (by decide) (ht _ k_fl_M_25) (fun _ h9 => h9) rfl d_M_give_36 ?_
      refine lv_aload_n hx hb d_M_give_39 rfl (lv_at hl 0 rfl) ?_
      refine va_get (D := xD G) (ci := 5) (C := R_M) (T := F_M) (N := 19) hx hb ht in_M hown hK hP 0 h5 rfl 3 (by decide) (ht _ k_fl_M_16) (fun _ h9 => h9) rfl d_M_give_40 ?_
      refine lv_iload_n hx hb d_M_give_43 rfl (lv_at hl 1 rfl) ?_
      refine x_iald hx hb hK hP h7 ja rfl (by omega) (by omega) d_M_give_44 ?_
      refine x_top (nI (st.In ja)) (rfl) ?_
      refine x_iald hx hb hK hP h8 (st.In ja) rfl (by omega) (by omega) d_M_give_45 ?_
      refine x_top (nI (st.Gn (st.In ja))) (rfl) ?_
      refine lv_istore_n (lv' := [(3, .int (nI (st.Gn (st.In ja)))), (0, .ref a.m), (1, .int (nI ja)), (2, .int x2)]) hx hb d_M_give_46 rfl hl (by decide) rfl (fun ls hl => ?_)
      refine lv_aload_n hx hb d_M_give_47 rfl (lv_at hl 1 rfl) ?_
      refine va_get (D := xD G) (ci := 5) (C := R_M) (T := F_M) (N := 19) hx hb ht in_M hown hK hP 0 h5 rfl 7 (by decide) (ht _ k_fl_M_25) (fun _ h9 => h9) rfl d_M_give_48 ?_
      refine lv_aload_n hx hb d_M_give_51 rfl (lv_at hl 1 rfl) ?_
      refine va_get (D := xD G) (ci := 5) (C := R_M) (T := F_M) (N := 19) hx hb ht in_M hown hK hP 0 h5 rfl 3 (by decide) (ht _ k_fl_M_16) (fun _ h9 => h9) rfl d_M_give_52 ?_
      refine lv_iload_n hx hb d_M_give_55 rfl (lv_at hl 2 rfl) ?_
      refine x_iald hx hb hK hP h7 ja rfl (by omega) (by omega) d_M_give_56 ?_
      refine x_top (nI (st.In ja)) (rfl) ?_
      refine lv_iload_n hx hb d_M_give_57 rfl (lv_at hl 3 rfl) ?_
      refine x_calli (va_runS (As := [.int x2]) (rest := [.int (nI (st.In ja)), .ref a.aG]) ⟨hx, hb, hml, hown, ht⟩ (c_M_rest l G A w2 x2) (va_cwS 1 ht (TW_S k_ml_M_60 k_st_M_rest k_in_M k_code_M_rest) rfl rfl rfl hv_M_rest.2 ⟨Nat.le_of_ble_eq_true rfl, Nat.le_of_ble_eq_true rfl⟩) ⟨x_blind, x_pre hE hA hS hP hD⟩ rfl rfl hl.1 rfl (lv_room (Nat.le_of_ble_eq_true rfl)) d_M_give_58 ⟨Nat.le_of_ble_eq_true rfl, Nat.le_of_ble_eq_true rfl⟩) hS (fun r17 w16 H locs q15 hP hD hS => ?_)
      obtain ⟨rfl, rfl⟩ := q15
      refine x_iast hx hb hK hP hD hS h8 (st.In ja) rfl (by omega) (by omega) d_M_give_61 (fun H locs hP hD hS => ?_)
      have hP : va_P (xD G) CL (w2.set 6 (a.aG, aI G 60 (upd (rI st.Gn) (st.In ja) (nI (rm x2))))) H := hP
      have hD : va_D A (w2.set 6 (a.aG, aI G 60 (upd (rI st.Gn) (st.In ja) (nI (rm x2))))) := hD
      obtain ⟨w18, e_w18⟩ : ∃ zz : va_W, zz = w2.set 6 (a.aG, aI G 60 (upd (rI st.Gn) (st.In ja) (nI (rm x2)))) := ⟨_, rfl⟩
      rw [← e_w18] at hP hD
      have h19 : w18[6]? = some (a.aG, aI G 60 (upd (rI st.Gn) (st.In ja) (nI (rm x2)))) := by rw [e_w18]; exact w_eq h8
      have E20 : w18 = mW G a (⟨0, st.ex, st.va, st.co, st.sv, st.kn, st.kc, st.S, st.Kd, st.In, st.Hw, st.Fr, (va_up st.Gn (st.In ja) (rm x2)), st.R, st.L, st.T, st.O, st.B, st.W⟩ : MS) := by rw [e_w18, E4, up_rI]; rfl
      have h21 : w18[0]? = some (a.m, .inr (5, [.int (nI 0), .ref a.aS, .ref a.aK, .ref a.aI, .int (nI st.ex), .ref a.aH, .ref a.aF, .ref a.aG, .int (nI st.va), .ref a.aR, .int (nI st.co), .ref a.aL, .ref a.aT, .ref a.aO, .ref a.aB, .ref a.aW, .int (nI st.sv), .int (nI st.kn), .int (nI st.kc)])) := by rw [E20]; rfl
      have h22 : w18[2]? = some (a.aK, aI G 60 (rI st.Kd)) := by rw [E20]; rfl
      have h23 : w18[3]? = some (a.aI, aI G 60 (rI st.In)) := by rw [E20]; rfl
      have h24 : w18[6]? = some (a.aG, aI G 60 (rI (va_up st.Gn (st.In ja) (rm x2)))) := by rw [E20]; rfl
      refine lv_iload_n hx hb d_M_give_62 rfl (lv_at hl 0 rfl) ?_
      have ls9 : (V.set (eI E ja) (gv (vAt V (eI E ja)) (rm x2))).length = V.length := List.length_set
      have rel : MRel (⟨0, st.ex, st.va, st.co, st.sv, st.kn, st.kc, st.S, st.Kd, st.In, st.Hw, st.Fr, (va_up st.Gn (st.In ja) (rm x2)), st.R, st.L, st.T, st.O, st.B, st.W⟩ : MS) (V.set (eI E ja) (gv (vAt V (eI E ja)) (rm x2))) E K inp w wV wC := ⟨by rw [ls9]; exact hM.1, by show RV st.va st.Hw st.Fr (va_up st.Gn (st.In ja) (rm x2)) _ K; rw [e2]; exact hM.2.1.set (by omega) g4 (rm_lt x2), by rw [ls9]; exact hM.2.2.1, hM.2.2.2⟩
      exact x_iret hx hb hr hlocks hS hP hD (Nat.le_of_ble_eq_true rfl) (Nat.le_of_ble_eq_true rfl) d_M_give_63 (⟨_, E20, Or.inl ⟨rfl, ja, ga, rfl, e1, by rw [e2, e3.2.2.1], rel⟩⟩)
    · refine lv_aload_n hx hb d_M_give_29 rfl (lv_at hl 0 rfl) ?_
      refine lv_iconst (v := (nI 2)) hx hb d_M_give_30 (by decide) ?_
      refine x_calli (va_runV (As := [.int (nI 2)]) (rest := []) ⟨hx, hb, hml, hown, ht⟩ (c_M_raise l G A w2 a (⟨0, st.ex, st.va, st.co, st.sv, st.kn, st.kc, st.S, st.Kd, st.In, st.Hw, st.Fr, st.Gn, st.R, st.L, st.T, st.O, st.B, st.W⟩ : MS) E4 2) (cwV 1 ht (TW_V k_ml_M_117 k_im_M_raise k_se_M_raise k_in_M k_code_M_raise) rfl rfl rfl hv_M_raise ⟨Nat.le_of_ble_eq_true rfl, Nat.le_of_ble_eq_true rfl⟩) ⟨x_blind, va_recv hK hP rfl h5, x_pre hE hA hS hP hD⟩ rfl rfl hl.1 rfl (lv_room (Nat.le_of_ble_eq_true rfl)) d_M_give_31 ⟨Nat.le_of_ble_eq_true rfl, Nat.le_of_ble_eq_true rfl⟩) hS (fun r27 w26 H locs q25 hP hD hS => ?_)
      obtain ⟨rfl, q25⟩ := q25
      have E28 : w26 = mW G a (⟨2, st.ex, st.va, st.co, st.sv, st.kn, st.kc, st.S, st.Kd, st.In, st.Hw, st.Fr, st.Gn, st.R, st.L, st.T, st.O, st.B, st.W⟩ : MS) := q25
      have h29 : w26[0]? = some (a.m, .inr (5, [.int (nI 2), .ref a.aS, .ref a.aK, .ref a.aI, .int (nI st.ex), .ref a.aH, .ref a.aF, .ref a.aG, .int (nI st.va), .ref a.aR, .int (nI st.co), .ref a.aL, .ref a.aT, .ref a.aO, .ref a.aB, .ref a.aW, .int (nI st.sv), .int (nI st.kn), .int (nI st.kc)])) := by rw [E28]; rfl
      exact x_iret hx hb hr hlocks hS hP hD (Nat.le_of_ble_eq_true rfl) (Nat.le_of_ble_eq_true rfl) d_M_give_34 (⟨_, E28, Or.inr (Or.inr (⟨rfl, ⟨ja, ga, rfl, by by_cases q : eI E ja = 0; exact q; exact absurd (g1.mpr q) c14⟩, hM⟩))⟩)
  · have m12 : ¬ md E.length x1 := by rw [← hex]; exact m12
    refine x_if_ne hx hb 0 rfl (by decide) (tgt := 19) d_M_give_10 (by decide) (fun c30 => ?_) (fun c30 => ?_)
    · exact False.elim (by omega)
    refine lv_aload_n hx hb d_M_give_13 rfl (lv_at hl 0 rfl) ?_
    refine lv_iconst (v := (nI 1)) hx hb d_M_give_14 (by decide) ?_
    refine x_calli (va_runV (As := [.int (nI 1)]) (rest := []) ⟨hx, hb, hml, hown, ht⟩ (c_M_raise l G A w2 a (⟨0, st.ex, st.va, st.co, st.sv, st.kn, st.kc, st.S, st.Kd, st.In, st.Hw, st.Fr, st.Gn, st.R, st.L, st.T, st.O, st.B, st.W⟩ : MS) E4 1) (cwV 1 ht (TW_V k_ml_M_117 k_im_M_raise k_se_M_raise k_in_M k_code_M_raise) rfl rfl rfl hv_M_raise ⟨Nat.le_of_ble_eq_true rfl, Nat.le_of_ble_eq_true rfl⟩) ⟨x_blind, va_recv hK hP rfl h5, x_pre hE hA hS hP hD⟩ rfl rfl hl.1 rfl (lv_room (Nat.le_of_ble_eq_true rfl)) d_M_give_15 ⟨Nat.le_of_ble_eq_true rfl, Nat.le_of_ble_eq_true rfl⟩) hS (fun r33 w32 H locs q31 hP hD hS => ?_)
    obtain ⟨rfl, q31⟩ := q31
    have E34 : w32 = mW G a (⟨1, st.ex, st.va, st.co, st.sv, st.kn, st.kc, st.S, st.Kd, st.In, st.Hw, st.Fr, st.Gn, st.R, st.L, st.T, st.O, st.B, st.W⟩ : MS) := q31
    have h35 : w32[0]? = some (a.m, .inr (5, [.int (nI 1), .ref a.aS, .ref a.aK, .ref a.aI, .int (nI st.ex), .ref a.aH, .ref a.aF, .ref a.aG, .int (nI st.va), .ref a.aR, .int (nI st.co), .ref a.aL, .ref a.aT, .ref a.aO, .ref a.aB, .ref a.aW, .int (nI st.sv), .int (nI st.kn), .int (nI st.kc)])) := by rw [E34]; rfl
    exact x_iret hx hb hr hlocks hS hP hD (Nat.le_of_ble_eq_true rfl) (Nat.le_of_ble_eq_true rfl) d_M_give_18 (⟨_, E34, Or.inr (Or.inl ⟨rfl, m12, hM⟩)⟩)

set_option maxHeartbeats 4000000 in
set_option maxRecDepth 100000 in
theorem m_terms (l : Launch) (G : xG) (A : Nat → Prop) (ws : va_W) (a : MA) (st : MS) (hw : ws = mW G a st) (V : List VV) (E : List EE) (K : List KK) (inp : Nat) (w : Nat → Nat) (wV wC : Nat) (hM : MRel st V E K inp w wV wC) (hI : okI V E K inp wV wC) (x1 : Int32) : Met l y_M_terms (cw_M_terms :: TW) { frames := 7, cells := 0, slots := 0, locals := 182 } (va_Pc [.ref a.m, .int x1] (x_P G A ws)) (qI G A (fun r w9 => ∃ st' : MS, w9 = mW G a st' ∧ ((st'.th = 0 ∧ (∃ j, j < E.length ∧ x1 = nI j ∧ r = nI (nz (sE E j) 60)) ∧ MRel st' V E K inp w wV wC) ∨ (st'.th = 1 ∧ (¬ md E.length x1) ∧ MRel st' V E K inp w wV wC)))) 0 0 A := by
  refine Met.ofW (cc := b_M_terms) (maxL := 4) (ret := (some .int)) (by decide) rfl ?_
  intro p e s m args below meth c s₁ B hml hv
  obtain ⟨rfl, hE, hA, hP, hD⟩ := hv
  have hx := B.exec
  have hb := B.bytes
  have hr := B.returns
  have ht : ∀ w ∈ TW, w.before _ s = true := fun w h => atoms_spec (ws := cw_M_terms :: TW) B.pre w (List.mem_cons_of_mem _ h)
  have hown : s.vm.findClass R_M = some m.cls := findClass_of_methodNamed B.named
  have hlocks := B.notSynchronized
  have hK := hE.1
  have hS : va_S A s.heap s.heap [] := va_S.rf
  have hl := lv_entry ([.ref a.m, .int x1]) (n := 4) (Nat.le_of_ble_eq_true rfl)
  rw [lg_entry_eq]
  generalize (lg_sl ([.ref a.m, .int x1]) ++ List.replicate (4 - (lg_sl ([.ref a.m, .int x1])).length) Slot.unset).toArray = ls at hl ⊢
  have hl : lv_has ls 4 [(0, .ref a.m), (1, .int x1)] := hl
  obtain ⟨i1, i2, i3, i4, i5, i6, i7, i8, i9⟩ := id hI
  have hco := hM.1.1
  have hva := hM.2.1.1
  have hex := hM.2.2.1.1
  have hS9 : ∀ e9 j, e9 < E.length → j < 60 → st.S (60 * e9 + j) = sE E e9 j := fun e9 j h1 h2 => (hM.2.2.1.2.1 e9 j h1 h2).1
  have hS8 : ∀ e9 j, e9 < E.length → j < 60 → sE E e9 j < 97 := fun e9 j h1 h2 => (hM.2.2.1.2.1 e9 j h1 h2).2.1
  have hS6 : ∀ e9, e9 < E.length → ∀ j, j < 60 → st.S (60 * e9 + j) < 97 := fun e9 h1 j h2 => by rw [hS9 e9 j h1 h2]; exact hS8 e9 j h1 h2
  have hS7 : ∀ e9 j, e9 < E.length → V.length ≤ j → j < 60 → sE E e9 j = 0 := fun e9 j h1 h3 h2 => (hM.2.2.1.2.1 e9 j h1 h2).2.2 h3
  have h1 : ws[0]? = some (a.m, .inr (5, [.int (nI st.th), .ref a.aS, .ref a.aK, .ref a.aI, .int (nI st.ex), .ref a.aH, .ref a.aF, .ref a.aG, .int (nI st.va), .ref a.aR, .int (nI st.co), .ref a.aL, .ref a.aT, .ref a.aO, .ref a.aB, .ref a.aW, .int (nI st.sv), .int (nI st.kn), .int (nI st.kc)])) := by rw [hw]; rfl
  refine lv_aload_n hx hb d_M_terms_0 rfl (lv_at hl 0 rfl) ?_
  refine lv_iconst (v := (nI 0)) hx hb d_M_terms_1 (by decide) ?_
  refine va_put (D := xD G) (ci := 5) (v := .int (nI 0)) (ty := .int) (C := R_M) (T := F_M) (N := 19) hx hb ht in_M ft_M fo_M nm_M hown hK hP hD hS 0 h1 rfl 0 (by decide) (ht _ k_fl_M_50) (fun _ h9 => h9) rfl (by decide +kernel) rfl rfl (Nat.le_of_ble_eq_true rfl) d_M_terms_2 (fun H locs hP hD hS => ?_)
  have hP : va_P (xD G) CL (ws.set 0 (a.m, .inr (5, [.int (nI 0), .ref a.aS, .ref a.aK, .ref a.aI, .int (nI st.ex), .ref a.aH, .ref a.aF, .ref a.aG, .int (nI st.va), .ref a.aR, .int (nI st.co), .ref a.aL, .ref a.aT, .ref a.aO, .ref a.aB, .ref a.aW, .int (nI st.sv), .int (nI st.kn), .int (nI st.kc)]))) H := hP
  have hD : va_D A (ws.set 0 (a.m, .inr (5, [.int (nI 0), .ref a.aS, .ref a.aK, .ref a.aI, .int (nI st.ex), .ref a.aH, .ref a.aF, .ref a.aG, .int (nI st.va), .ref a.aR, .int (nI st.co), .ref a.aL, .ref a.aT, .ref a.aO, .ref a.aB, .ref a.aW, .int (nI st.sv), .int (nI st.kn), .int (nI st.kc)]))) := hD
  obtain ⟨w2, e_w2⟩ : ∃ zz : va_W, zz = ws.set 0 (a.m, .inr (5, [.int (nI 0), .ref a.aS, .ref a.aK, .ref a.aI, .int (nI st.ex), .ref a.aH, .ref a.aF, .ref a.aG, .int (nI st.va), .ref a.aR, .int (nI st.co), .ref a.aL, .ref a.aT, .ref a.aO, .ref a.aB, .ref a.aW, .int (nI st.sv), .int (nI st.kn), .int (nI st.kc)])) := ⟨_, rfl⟩
  rw [← e_w2] at hP hD
  have h3 : w2[0]? = some (a.m, .inr (5, [.int (nI 0), .ref a.aS, .ref a.aK, .ref a.aI, .int (nI st.ex), .ref a.aH, .ref a.aF, .ref a.aG, .int (nI st.va), .ref a.aR, .int (nI st.co), .ref a.aL, .ref a.aT, .ref a.aO, .ref a.aB, .ref a.aW, .int (nI st.sv), .int (nI st.kn), .int (nI st.kc)])) := by rw [e_w2]; exact w_eq h1
  have E4 : w2 = mW G a (⟨0, st.ex, st.va, st.co, st.sv, st.kn, st.kc, st.S, st.Kd, st.In, st.Hw, st.Fr, st.Gn, st.R, st.L, st.T, st.O, st.B, st.W⟩ : MS) := by rw [e_w2, hw]; rfl
  have h5 : w2[0]? = some (a.m, .inr (5, [.int (nI 0), .ref a.aS, .ref a.aK, .ref a.aI, .int (nI st.ex), .ref a.aH, .ref a.aF, .ref a.aG, .int (nI st.va), .ref a.aR, .int (nI st.co), .ref a.aL, .ref a.aT, .ref a.aO, .ref a.aB, .ref a.aW, .int (nI st.sv), .int (nI st.kn), .int (nI st.kc)])) := by rw [E4]; rfl
  have h6 : w2[1]? = some (a.aS, aI G 3600 (rI st.S)) := by rw [E4]; rfl
  refine lv_aload_n hx hb d_M_terms_5 rfl (lv_at hl 0 rfl) ?_
  refine lv_iload_n hx hb d_M_terms_6 rfl (lv_at hl 1 rfl) ?_
  refine x_calli (va_runV (As := [.int x1]) (rest := []) ⟨hx, hb, hml, hown, ht⟩ (c_M_made l G A w2 a (⟨0, st.ex, st.va, st.co, st.sv, st.kn, st.kc, st.S, st.Kd, st.In, st.Hw, st.Fr, st.Gn, st.R, st.L, st.T, st.O, st.B, st.W⟩ : MS) E4 (show st.ex ≤ 60 by omega) x1) (cwV 1 ht (TW_V k_ml_M_86 k_im_M_made k_se_M_made k_in_M k_code_M_made) rfl rfl rfl hv_M_made ⟨Nat.le_of_ble_eq_true rfl, Nat.le_of_ble_eq_true rfl⟩) ⟨x_blind, va_recv hK hP rfl h5, x_pre hE hA hS hP hD⟩ rfl rfl hl.1 rfl (lv_room (Nat.le_of_ble_eq_true rfl)) d_M_terms_7 ⟨Nat.le_of_ble_eq_true rfl, Nat.le_of_ble_eq_true rfl⟩) hS (fun r9 w8 H locs q7 hP hD hS => ?_)
  obtain ⟨rfl, ⟨rfl, m10⟩ | ⟨rfl, m10⟩⟩ := q7
  · have m10 : md E.length x1 := by rw [← hex]; exact m10
    refine x_if_ne hx hb 1 rfl (by decide) (tgt := 19) d_M_terms_10 (by decide) (fun c11 => ?_) (fun c11 => ?_)
    rotate_left
    · exact False.elim (by omega)
    obtain ⟨ja, ga, rfl⟩ := id m10
    refine lv_iconst (v := (nI 0)) hx hb d_M_terms_19 (by decide) ?_
    refine lv_istore_n (lv' := [(2, .int (nI 0)), (0, .ref a.m), (1, .int (nI ja))]) hx hb d_M_terms_20 rfl hl (by decide) rfl (fun ls hl => ?_)
    refine lv_iconst (v := (nI 0)) hx hb d_M_terms_21 (by decide) ?_
    refine lv_istore_n (lv' := [(3, .int (nI 0)), (2, .int (nI 0)), (0, .ref a.m), (1, .int (nI ja))]) hx hb d_M_terms_22 rfl hl (by decide) rfl (fun ls hl => ?_)
    have loop : ∀ (n i : Nat), i + n = 60 → ∀ (H : Heap) (locs : List Loc) (ls : Array Slot), (va_P (xD G) CL w2 H) → (va_S A s.heap H locs) → lv_has ls 4 [(3, .int (nI i)), (2, .int (nI (nz (sE E ja) i))), (0, .ref a.m), (1, .int (nI ja))] → W p l e (headSpec (cw_M_terms :: TW) { frames := 7, cells := 0, slots := 0, locals := 182 }).room s m ([.ref a.m, .int (nI ja)] : List Value).toArray below meth c H locs 0 0 (MQ below (qI G A (fun r w9 => ∃ st' : MS, w9 = mW G a st' ∧ ((st'.th = 0 ∧ (∃ j, j < E.length ∧ (nI ja) = nI j ∧ r = nI (nz (sE E j) 60)) ∧ MRel st' V E K inp w wV wC) ∨ (st'.th = 1 ∧ (¬ md E.length (nI ja)) ∧ MRel st' V E K inp w wV wC)))) ([.ref a.m, .int (nI ja)] : List Value).toArray s 0 0 A) (F0 m 23 ls []) := by
      intro n
      induction n with
      | zero =>
        intro i hi H locs ls hP hS hl
        refine lv_iload_n hx hb d_M_terms_23 rfl (lv_at hl 0 rfl) ?_
        refine lv_bipush (v := (nI 60)) hx hb d_M_terms_24 (by decide) ?_
        refine x_ge hx hb i 60 rfl rfl (by omega) (by omega) (tgt := 52) d_M_terms_26 (by decide) (fun c12 => ?_) (fun c12 => ?_)
        · have i0 : i = 60 := by omega
          refine lv_iload_n hx hb d_M_terms_52 rfl (lv_at hl 1 rfl) ?_
          exact x_iret hx hb hr hlocks hS hP hD (Nat.le_of_ble_eq_true rfl) (Nat.le_of_ble_eq_true rfl) d_M_terms_53 (⟨_, E4, Or.inl ⟨rfl, ⟨ja, ga, rfl, by rw [i0]⟩, hM⟩⟩)
        · exact False.elim (by omega)
      | succ n ih =>
        intro i hi H locs ls hP hS hl
        refine lv_iload_n hx hb d_M_terms_23 rfl (lv_at hl 0 rfl) ?_
        refine lv_bipush (v := (nI 60)) hx hb d_M_terms_24 (by decide) ?_
        refine x_ge hx hb i 60 rfl rfl (by omega) (by omega) (tgt := 52) d_M_terms_26 (by decide) (fun c13 => ?_) (fun c13 => ?_)
        · exact False.elim (by omega)
        · have nl := nz_le (sE E ja) i
          refine lv_aload_n hx hb d_M_terms_29 rfl (lv_at hl 2 rfl) ?_
          refine va_get (D := xD G) (ci := 5) (C := R_M) (T := F_M) (N := 19) hx hb ht in_M hown hK hP 0 h5 rfl 1 (by decide) (ht _ k_fl_M_7) (fun _ h9 => h9) rfl d_M_terms_30 ?_
          refine lv_bipush (v := (nI 60)) hx hb d_M_terms_33 (by decide) ?_
          refine lv_iload_n hx hb d_M_terms_35 rfl (lv_at hl 3 rfl) ?_
          refine lv_imul hx hb d_M_terms_36 ?_
          refine x_top (nI (60 * ja)) (pk_mul _ _) ?_
          refine lv_iload_n hx hb d_M_terms_37 rfl (lv_at hl 0 rfl) ?_
          refine lv_iadd hx hb d_M_terms_38 ?_
          refine x_top (nI ((60 * ja) + i)) (nI_add _ _) ?_
          refine x_iald hx hb hK hP h6 ((60 * ja) + i) rfl (by omega) (by omega) d_M_terms_39 ?_
          refine x_top (nI (sE E ja i)) (by rw [← hS9 ja i ga (by omega)]; rfl) ?_
          have b1 := hS8 ja i ga (by omega)
          refine x_if_eq hx hb (sE E ja i) rfl (by omega) (tgt := 46) d_M_terms_40 (by decide) (fun c14 => ?_) (fun c14 => ?_)
          · have e9 : nz (sE E ja) (i + 1) = nz (sE E ja) i := by show nz (sE E ja) i + _ = _; rw [if_pos c14, Nat.add_zero]
            refine lv_iinc (v := nI (i + 1)) (lv' := [(3, .int (nI (i + 1))), (2, .int (nI (nz (sE E ja) i))), (0, .ref a.m), (1, .int (nI ja))]) hx hb d_M_terms_46 hl (k := 0) rfl (n_inc _) (by decide) rfl (fun ls hl => ?_)
            refine lv_goto (tgt := 23) hx hb d_M_terms_49 (by decide) ?_
            exact ih (i + 1) (by omega) H locs ls hP hS (by rw [e9]; exact (lv_sub hl [0, 1, 2, 3] rfl))
          · have e9 : nz (sE E ja) (i + 1) = nz (sE E ja) i + 1 := by show nz (sE E ja) i + _ = _; rw [if_neg c14]
            refine lv_iinc (v := nI (nz (sE E ja) i + 1)) (lv' := [(2, .int (nI (nz (sE E ja) i + 1))), (3, .int (nI i)), (0, .ref a.m), (1, .int (nI ja))]) hx hb d_M_terms_43 hl (k := 1) rfl (n_inc _) (by decide) rfl (fun ls hl => ?_)
            refine lv_iinc (v := nI (i + 1)) (lv' := [(3, .int (nI (i + 1))), (2, .int (nI (nz (sE E ja) i + 1))), (0, .ref a.m), (1, .int (nI ja))]) hx hb d_M_terms_46 hl (k := 1) rfl (n_inc _) (by decide) rfl (fun ls hl => ?_)
            refine lv_goto (tgt := 23) hx hb d_M_terms_49 (by decide) ?_
            exact ih (i + 1) (by omega) H locs ls hP hS (by rw [e9]; exact (lv_sub hl [0, 1, 2, 3] rfl))
    exact loop 60 0 (by omega) H locs ls hP hS (lv_sub hl [0, 1, 2, 3] rfl)
  · have m10 : ¬ md E.length x1 := by rw [← hex]; exact m10
    refine x_if_ne hx hb 0 rfl (by decide) (tgt := 19) d_M_terms_10 (by decide) (fun c15 => ?_) (fun c15 => ?_)
    · exact False.elim (by omega)
    refine lv_aload_n hx hb d_M_terms_13 rfl (lv_at hl 0 rfl) ?_
    refine lv_iconst (v := (nI 1)) hx hb d_M_terms_14 (by decide) ?_
    refine x_calli (va_runV (As := [.int (nI 1)]) (rest := []) ⟨hx, hb, hml, hown, ht⟩ (c_M_raise l G A w2 a (⟨0, st.ex, st.va, st.co, st.sv, st.kn, st.kc, st.S, st.Kd, st.In, st.Hw, st.Fr, st.Gn, st.R, st.L, st.T, st.O, st.B, st.W⟩ : MS) E4 1) (cwV 1 ht (TW_V k_ml_M_117 k_im_M_raise k_se_M_raise k_in_M k_code_M_raise) rfl rfl rfl hv_M_raise ⟨Nat.le_of_ble_eq_true rfl, Nat.le_of_ble_eq_true rfl⟩) ⟨x_blind, va_recv hK hP rfl h5, x_pre hE hA hS hP hD⟩ rfl rfl hl.1 rfl (lv_room (Nat.le_of_ble_eq_true rfl)) d_M_terms_15 ⟨Nat.le_of_ble_eq_true rfl, Nat.le_of_ble_eq_true rfl⟩) hS (fun r18 w17 H locs q16 hP hD hS => ?_)
    obtain ⟨rfl, q16⟩ := q16
    have E19 : w17 = mW G a (⟨1, st.ex, st.va, st.co, st.sv, st.kn, st.kc, st.S, st.Kd, st.In, st.Hw, st.Fr, st.Gn, st.R, st.L, st.T, st.O, st.B, st.W⟩ : MS) := q16
    have h20 : w17[0]? = some (a.m, .inr (5, [.int (nI 1), .ref a.aS, .ref a.aK, .ref a.aI, .int (nI st.ex), .ref a.aH, .ref a.aF, .ref a.aG, .int (nI st.va), .ref a.aR, .int (nI st.co), .ref a.aL, .ref a.aT, .ref a.aO, .ref a.aB, .ref a.aW, .int (nI st.sv), .int (nI st.kn), .int (nI st.kc)])) := by rw [E19]; rfl
    exact x_iret hx hb hr hlocks hS hP hD (Nat.le_of_ble_eq_true rfl) (Nat.le_of_ble_eq_true rfl) d_M_terms_18 (⟨_, E19, Or.inr (⟨rfl, m10, hM⟩)⟩)

set_option maxHeartbeats 4000000 in
set_option maxRecDepth 100000 in
theorem m_coef (l : Launch) (G : xG) (A : Nat → Prop) (ws : va_W) (a : MA) (st : MS) (hw : ws = mW G a st) (V : List VV) (E : List EE) (K : List KK) (inp : Nat) (w : Nat → Nat) (wV wC : Nat) (hM : MRel st V E K inp w wV wC) (hI : okI V E K inp wV wC) (x1 x2 x3 : Int32) : Met l y_M_coefficient (cw_M_coefficient :: TW) { frames := 7, cells := 0, slots := 0, locals := 182 } (va_Pc [.ref a.m, .int x1, .int x2, .int x3] (x_P G A ws)) (qI G A (fun r w9 => ∃ st' : MS, w9 = mW G a st' ∧ ((st'.th = 0 ∧ (∃ a b v, a < K.length ∧ b < 3 ∧ v < 60 ∧ x1 = nI a ∧ x2 = nI b ∧ x3 = nI v ∧ r = nI (kS (kAt K a) b v)) ∧ MRel st' V E K inp w wV wC) ∨ (st'.th = 1 ∧ (¬ md K.length x1) ∧ MRel st' V E K inp w wV wC) ∨ (st'.th = 2 ∧ (md K.length x1 ∧ ¬ (md 3 x2 ∧ md 60 x3)) ∧ MRel st' V E K inp w wV wC)))) 0 0 A := by
  refine Met.ofW (cc := b_M_coefficient) (maxL := 4) (ret := (some .int)) (by decide) rfl ?_
  intro p e s m args below meth c s₁ B hml hv
  obtain ⟨rfl, hE, hA, hP, hD⟩ := hv
  have hx := B.exec
  have hb := B.bytes
  have hr := B.returns
  have ht : ∀ w ∈ TW, w.before _ s = true := fun w h => atoms_spec (ws := cw_M_coefficient :: TW) B.pre w (List.mem_cons_of_mem _ h)
  have hown : s.vm.findClass R_M = some m.cls := findClass_of_methodNamed B.named
  have hlocks := B.notSynchronized
  have hK := hE.1
  have hS : va_S A s.heap s.heap [] := va_S.rf
  have hl := lv_entry ([.ref a.m, .int x1, .int x2, .int x3]) (n := 4) (Nat.le_of_ble_eq_true rfl)
  rw [lg_entry_eq]
  generalize (lg_sl ([.ref a.m, .int x1, .int x2, .int x3]) ++ List.replicate (4 - (lg_sl ([.ref a.m, .int x1, .int x2, .int x3])).length) Slot.unset).toArray = ls at hl ⊢
  have hl : lv_has ls 4 [(0, .ref a.m), (1, .int x1), (2, .int x2), (3, .int x3)] := hl
  obtain ⟨i1, i2, i3, i4, i5, i6, i7, i8, i9⟩ := id hI
  have hco := hM.1.1
  have hva := hM.2.1.1
  have hex := hM.2.2.1.1
  have hS9 : ∀ e9 j, e9 < E.length → j < 60 → st.S (60 * e9 + j) = sE E e9 j := fun e9 j h1 h2 => (hM.2.2.1.2.1 e9 j h1 h2).1
  have hS8 : ∀ e9 j, e9 < E.length → j < 60 → sE E e9 j < 97 := fun e9 j h1 h2 => (hM.2.2.1.2.1 e9 j h1 h2).2.1
  have hS6 : ∀ e9, e9 < E.length → ∀ j, j < 60 → st.S (60 * e9 + j) < 97 := fun e9 h1 j h2 => by rw [hS9 e9 j h1 h2]; exact hS8 e9 j h1 h2
  have hS7 : ∀ e9 j, e9 < E.length → V.length ≤ j → j < 60 → sE E e9 j = 0 := fun e9 j h1 h3 h2 => (hM.2.2.1.2.1 e9 j h1 h2).2.2 h3
  have h1 : ws[0]? = some (a.m, .inr (5, [.int (nI st.th), .ref a.aS, .ref a.aK, .ref a.aI, .int (nI st.ex), .ref a.aH, .ref a.aF, .ref a.aG, .int (nI st.va), .ref a.aR, .int (nI st.co), .ref a.aL, .ref a.aT, .ref a.aO, .ref a.aB, .ref a.aW, .int (nI st.sv), .int (nI st.kn), .int (nI st.kc)])) := by rw [hw]; rfl
  refine lv_aload_n hx hb d_M_coefficient_0 rfl (lv_at hl 0 rfl) ?_
  refine lv_iconst (v := (nI 0)) hx hb d_M_coefficient_1 (by decide) ?_
  refine va_put (D := xD G) (ci := 5) (v := .int (nI 0)) (ty := .int) (C := R_M) (T := F_M) (N := 19) hx hb ht in_M ft_M fo_M nm_M hown hK hP hD hS 0 h1 rfl 0 (by decide) (ht _ k_fl_M_50) (fun _ h9 => h9) rfl (by decide +kernel) rfl rfl (Nat.le_of_ble_eq_true rfl) d_M_coefficient_2 (fun H locs hP hD hS => ?_)
  have hP : va_P (xD G) CL (ws.set 0 (a.m, .inr (5, [.int (nI 0), .ref a.aS, .ref a.aK, .ref a.aI, .int (nI st.ex), .ref a.aH, .ref a.aF, .ref a.aG, .int (nI st.va), .ref a.aR, .int (nI st.co), .ref a.aL, .ref a.aT, .ref a.aO, .ref a.aB, .ref a.aW, .int (nI st.sv), .int (nI st.kn), .int (nI st.kc)]))) H := hP
  have hD : va_D A (ws.set 0 (a.m, .inr (5, [.int (nI 0), .ref a.aS, .ref a.aK, .ref a.aI, .int (nI st.ex), .ref a.aH, .ref a.aF, .ref a.aG, .int (nI st.va), .ref a.aR, .int (nI st.co), .ref a.aL, .ref a.aT, .ref a.aO, .ref a.aB, .ref a.aW, .int (nI st.sv), .int (nI st.kn), .int (nI st.kc)]))) := hD
  obtain ⟨w2, e_w2⟩ : ∃ zz : va_W, zz = ws.set 0 (a.m, .inr (5, [.int (nI 0), .ref a.aS, .ref a.aK, .ref a.aI, .int (nI st.ex), .ref a.aH, .ref a.aF, .ref a.aG, .int (nI st.va), .ref a.aR, .int (nI st.co), .ref a.aL, .ref a.aT, .ref a.aO, .ref a.aB, .ref a.aW, .int (nI st.sv), .int (nI st.kn), .int (nI st.kc)])) := ⟨_, rfl⟩
  rw [← e_w2] at hP hD
  have h3 : w2[0]? = some (a.m, .inr (5, [.int (nI 0), .ref a.aS, .ref a.aK, .ref a.aI, .int (nI st.ex), .ref a.aH, .ref a.aF, .ref a.aG, .int (nI st.va), .ref a.aR, .int (nI st.co), .ref a.aL, .ref a.aT, .ref a.aO, .ref a.aB, .ref a.aW, .int (nI st.sv), .int (nI st.kn), .int (nI st.kc)])) := by rw [e_w2]; exact w_eq h1
  have E4 : w2 = mW G a (⟨0, st.ex, st.va, st.co, st.sv, st.kn, st.kc, st.S, st.Kd, st.In, st.Hw, st.Fr, st.Gn, st.R, st.L, st.T, st.O, st.B, st.W⟩ : MS) := by rw [e_w2, hw]; rfl
  have h5 : w2[0]? = some (a.m, .inr (5, [.int (nI 0), .ref a.aS, .ref a.aK, .ref a.aI, .int (nI st.ex), .ref a.aH, .ref a.aF, .ref a.aG, .int (nI st.va), .ref a.aR, .int (nI st.co), .ref a.aL, .ref a.aT, .ref a.aO, .ref a.aB, .ref a.aW, .int (nI st.sv), .int (nI st.kn), .int (nI st.kc)])) := by rw [E4]; rfl
  have h6 : w2[7]? = some (a.aR, aI G 14400 (rI st.R)) := by rw [E4]; rfl
  refine lv_iload_n hx hb d_M_coefficient_5 rfl (lv_at hl 1 rfl) ?_
  refine lv_iconst (v := (nI 0)) hx hb d_M_coefficient_6 (by decide) ?_
  refine lv_aload_n hx hb d_M_coefficient_7 rfl (lv_at hl 0 rfl) ?_
  refine va_get (D := xD G) (ci := 5) (C := R_M) (T := F_M) (N := 19) hx hb ht in_M hown hK hP 0 h5 rfl 10 (by decide) (ht _ k_fl_M_72) (fun _ h9 => h9) rfl d_M_coefficient_8 ?_
  refine lv_iconst (v := (nI 1)) hx hb d_M_coefficient_11 (by decide) ?_
  refine lv_isub hx hb d_M_coefficient_12 ?_
  refine x_calli (va_runS (As := [.int x1, .int (nI 0), .int (nI st.co - nI 1)]) (rest := []) ⟨hx, hb, hml, hown, ht⟩ (c_M_in l G A w2 x1 (nI 0) (nI st.co - nI 1)) (va_cwS 3 ht (TW_S k_ml_M_56 k_st_M_in k_in_M k_code_M_in) rfl rfl rfl hv_M_in.2 ⟨Nat.le_of_ble_eq_true rfl, Nat.le_of_ble_eq_true rfl⟩) ⟨x_blind, x_pre hE hA hS hP hD⟩ rfl rfl hl.1 rfl (lv_room (Nat.le_of_ble_eq_true rfl)) d_M_coefficient_13 ⟨Nat.le_of_ble_eq_true rfl, Nat.le_of_ble_eq_true rfl⟩) hS (fun r9 w8 H locs q7 hP hD hS => ?_)
  obtain ⟨rfl, ⟨rfl, m10⟩ | ⟨rfl, m10⟩⟩ := q7
  · refine x_if_ne hx hb 1 rfl (by decide) (tgt := 25) d_M_coefficient_16 (by decide) (fun c11 => ?_) (fun c11 => ?_)
    rotate_left
    · exact False.elim (by omega)
    have m1 : md K.length x1 := by rw [← hco]; exact (in_md (by omega)).mp m10
    obtain ⟨ja, ga, rfl⟩ := id m1
    refine lv_iload_n hx hb d_M_coefficient_25 rfl (lv_at hl 2 rfl) ?_
    refine lv_iconst (v := (nI 0)) hx hb d_M_coefficient_26 (by decide) ?_
    refine lv_iconst (v := (nI 2)) hx hb d_M_coefficient_27 (by decide) ?_
    refine x_calli (va_runS (As := [.int x2, .int (nI 0), .int (nI 2)]) (rest := []) ⟨hx, hb, hml, hown, ht⟩ (c_M_in l G A w2 x2 (nI 0) (nI 2)) (va_cwS 3 ht (TW_S k_ml_M_56 k_st_M_in k_in_M k_code_M_in) rfl rfl rfl hv_M_in.2 ⟨Nat.le_of_ble_eq_true rfl, Nat.le_of_ble_eq_true rfl⟩) ⟨x_blind, x_pre hE hA hS hP hD⟩ rfl rfl hl.1 rfl (lv_room (Nat.le_of_ble_eq_true rfl)) d_M_coefficient_28 ⟨Nat.le_of_ble_eq_true rfl, Nat.le_of_ble_eq_true rfl⟩) hS (fun r14 w13 H locs q12 hP hD hS => ?_)
    obtain ⟨rfl, ⟨rfl, m15⟩ | ⟨rfl, m15⟩⟩ := q12
    · refine x_if_eq hx hb 1 rfl (by decide) (tgt := 64) d_M_coefficient_31 (by decide) (fun c16 => ?_) (fun c16 => ?_)
      · exact False.elim (by omega)
      have m2 : md 3 x2 := (in_mdn (by decide)).mp m15
      obtain ⟨jb, gb, rfl⟩ := id m2
      refine lv_iload_n hx hb d_M_coefficient_34 rfl (lv_at hl 3 rfl) ?_
      refine lv_iconst (v := (nI 0)) hx hb d_M_coefficient_35 (by decide) ?_
      refine lv_bipush (v := (nI 59)) hx hb d_M_coefficient_36 (by decide) ?_
      refine x_calli (va_runS (As := [.int x3, .int (nI 0), .int (nI 59)]) (rest := []) ⟨hx, hb, hml, hown, ht⟩ (c_M_in l G A w2 x3 (nI 0) (nI 59)) (va_cwS 3 ht (TW_S k_ml_M_56 k_st_M_in k_in_M k_code_M_in) rfl rfl rfl hv_M_in.2 ⟨Nat.le_of_ble_eq_true rfl, Nat.le_of_ble_eq_true rfl⟩) ⟨x_blind, x_pre hE hA hS hP hD⟩ rfl rfl hl.1 rfl (lv_room (Nat.le_of_ble_eq_true rfl)) d_M_coefficient_38 ⟨Nat.le_of_ble_eq_true rfl, Nat.le_of_ble_eq_true rfl⟩) hS (fun r19 w18 H locs q17 hP hD hS => ?_)
      obtain ⟨rfl, ⟨rfl, m20⟩ | ⟨rfl, m20⟩⟩ := q17
      · refine x_if_eq hx hb 1 rfl (by decide) (tgt := 64) d_M_coefficient_41 (by decide) (fun c21 => ?_) (fun c21 => ?_)
        · exact False.elim (by omega)
        have m3 : md 60 x3 := (in_mdn (by decide)).mp m20
        obtain ⟨jc, gc, rfl⟩ := id m3
        refine lv_aload_n hx hb d_M_coefficient_44 rfl (lv_at hl 0 rfl) ?_
        refine va_get (D := xD G) (ci := 5) (C := R_M) (T := F_M) (N := 19) hx hb ht in_M hown hK hP 0 h5 rfl 9 (by decide) (ht _ k_fl_M_32) (fun _ h9 => h9) rfl d_M_coefficient_45 ?_
        refine lv_sipush (v := (nI 180)) hx hb d_M_coefficient_48 (by decide) ?_
        refine lv_iload_n hx hb d_M_coefficient_51 rfl (lv_at hl 1 rfl) ?_
        refine lv_imul hx hb d_M_coefficient_52 ?_
        refine x_top (nI (180 * ja)) (pk_mul _ _) ?_
        refine lv_bipush (v := (nI 60)) hx hb d_M_coefficient_53 (by decide) ?_
        refine lv_iload_n hx hb d_M_coefficient_55 rfl (lv_at hl 2 rfl) ?_
        refine lv_imul hx hb d_M_coefficient_56 ?_
        refine x_top (nI (60 * jb)) (pk_mul _ _) ?_
        refine lv_iadd hx hb d_M_coefficient_57 ?_
        refine x_top (nI ((180 * ja) + (60 * jb))) (nI_add _ _) ?_
        refine lv_iload_n hx hb d_M_coefficient_58 rfl (lv_at hl 3 rfl) ?_
        refine lv_iadd hx hb d_M_coefficient_59 ?_
        refine x_top (nI (((180 * ja) + (60 * jb)) + jc)) (nI_add _ _) ?_
        refine x_iald hx hb hK hP h6 (((180 * ja) + (60 * jb)) + jc) rfl (by omega) (by omega) d_M_coefficient_60 ?_
        refine x_top (nI (st.R (((180 * ja) + (60 * jb)) + jc))) (rfl) ?_
        refine lv_goto (tgt := 69) hx hb d_M_coefficient_61 (by decide) ?_
        exact x_iret hx hb hr hlocks hS hP hD (Nat.le_of_ble_eq_true rfl) (Nat.le_of_ble_eq_true rfl) d_M_coefficient_69 (⟨_, E4, Or.inl ⟨rfl, ⟨ja, jb, jc, ga, gb, gc, rfl, rfl, rfl, by rw [(hM.1.2 ja jb jc ga gb gc).1]⟩, hM⟩⟩)
      · refine x_if_eq hx hb 0 rfl (by decide) (tgt := 64) d_M_coefficient_41 (by decide) (fun c22 => ?_) (fun c22 => ?_)
        rotate_left
        · exact False.elim (by omega)
        refine lv_aload_n hx hb d_M_coefficient_64 rfl (lv_at hl 0 rfl) ?_
        refine lv_iconst (v := (nI 2)) hx hb d_M_coefficient_65 (by decide) ?_
        refine x_calli (va_runV (As := [.int (nI 2)]) (rest := []) ⟨hx, hb, hml, hown, ht⟩ (c_M_raise l G A w2 a (⟨0, st.ex, st.va, st.co, st.sv, st.kn, st.kc, st.S, st.Kd, st.In, st.Hw, st.Fr, st.Gn, st.R, st.L, st.T, st.O, st.B, st.W⟩ : MS) E4 2) (cwV 1 ht (TW_V k_ml_M_117 k_im_M_raise k_se_M_raise k_in_M k_code_M_raise) rfl rfl rfl hv_M_raise ⟨Nat.le_of_ble_eq_true rfl, Nat.le_of_ble_eq_true rfl⟩) ⟨x_blind, va_recv hK hP rfl h5, x_pre hE hA hS hP hD⟩ rfl rfl hl.1 rfl (lv_room (Nat.le_of_ble_eq_true rfl)) d_M_coefficient_66 ⟨Nat.le_of_ble_eq_true rfl, Nat.le_of_ble_eq_true rfl⟩) hS (fun r25 w24 H locs q23 hP hD hS => ?_)
        obtain ⟨rfl, q23⟩ := q23
        have E26 : w24 = mW G a (⟨2, st.ex, st.va, st.co, st.sv, st.kn, st.kc, st.S, st.Kd, st.In, st.Hw, st.Fr, st.Gn, st.R, st.L, st.T, st.O, st.B, st.W⟩ : MS) := q23
        have h27 : w24[0]? = some (a.m, .inr (5, [.int (nI 2), .ref a.aS, .ref a.aK, .ref a.aI, .int (nI st.ex), .ref a.aH, .ref a.aF, .ref a.aG, .int (nI st.va), .ref a.aR, .int (nI st.co), .ref a.aL, .ref a.aT, .ref a.aO, .ref a.aB, .ref a.aW, .int (nI st.sv), .int (nI st.kn), .int (nI st.kc)])) := by rw [E26]; rfl
        exact x_iret hx hb hr hlocks hS hP hD (Nat.le_of_ble_eq_true rfl) (Nat.le_of_ble_eq_true rfl) d_M_coefficient_69 (⟨_, E26, Or.inr (Or.inr (⟨rfl, ⟨m1, fun q => not_or2 m20 ((in_mdn (by decide)).mpr q.2)⟩, hM⟩))⟩)
    · refine x_if_eq hx hb 0 rfl (by decide) (tgt := 64) d_M_coefficient_31 (by decide) (fun c28 => ?_) (fun c28 => ?_)
      rotate_left
      · exact False.elim (by omega)
      refine lv_aload_n hx hb d_M_coefficient_64 rfl (lv_at hl 0 rfl) ?_
      refine lv_iconst (v := (nI 2)) hx hb d_M_coefficient_65 (by decide) ?_
      refine x_calli (va_runV (As := [.int (nI 2)]) (rest := []) ⟨hx, hb, hml, hown, ht⟩ (c_M_raise l G A w2 a (⟨0, st.ex, st.va, st.co, st.sv, st.kn, st.kc, st.S, st.Kd, st.In, st.Hw, st.Fr, st.Gn, st.R, st.L, st.T, st.O, st.B, st.W⟩ : MS) E4 2) (cwV 1 ht (TW_V k_ml_M_117 k_im_M_raise k_se_M_raise k_in_M k_code_M_raise) rfl rfl rfl hv_M_raise ⟨Nat.le_of_ble_eq_true rfl, Nat.le_of_ble_eq_true rfl⟩) ⟨x_blind, va_recv hK hP rfl h5, x_pre hE hA hS hP hD⟩ rfl rfl hl.1 rfl (lv_room (Nat.le_of_ble_eq_true rfl)) d_M_coefficient_66 ⟨Nat.le_of_ble_eq_true rfl, Nat.le_of_ble_eq_true rfl⟩) hS (fun r31 w30 H locs q29 hP hD hS => ?_)
      obtain ⟨rfl, q29⟩ := q29
      have E32 : w30 = mW G a (⟨2, st.ex, st.va, st.co, st.sv, st.kn, st.kc, st.S, st.Kd, st.In, st.Hw, st.Fr, st.Gn, st.R, st.L, st.T, st.O, st.B, st.W⟩ : MS) := q29
      have h33 : w30[0]? = some (a.m, .inr (5, [.int (nI 2), .ref a.aS, .ref a.aK, .ref a.aI, .int (nI st.ex), .ref a.aH, .ref a.aF, .ref a.aG, .int (nI st.va), .ref a.aR, .int (nI st.co), .ref a.aL, .ref a.aT, .ref a.aO, .ref a.aB, .ref a.aW, .int (nI st.sv), .int (nI st.kn), .int (nI st.kc)])) := by rw [E32]; rfl
      exact x_iret hx hb hr hlocks hS hP hD (Nat.le_of_ble_eq_true rfl) (Nat.le_of_ble_eq_true rfl) d_M_coefficient_69 (⟨_, E32, Or.inr (Or.inr (⟨rfl, ⟨m1, fun q => not_or2 m15 ((in_mdn (by decide)).mpr q.1)⟩, hM⟩))⟩)
  · refine x_if_ne hx hb 0 rfl (by decide) (tgt := 25) d_M_coefficient_16 (by decide) (fun c34 => ?_) (fun c34 => ?_)
    · exact False.elim (by omega)
    refine lv_aload_n hx hb d_M_coefficient_19 rfl (lv_at hl 0 rfl) ?_
    refine lv_iconst (v := (nI 1)) hx hb d_M_coefficient_20 (by decide) ?_
    refine x_calli (va_runV (As := [.int (nI 1)]) (rest := []) ⟨hx, hb, hml, hown, ht⟩ (c_M_raise l G A w2 a (⟨0, st.ex, st.va, st.co, st.sv, st.kn, st.kc, st.S, st.Kd, st.In, st.Hw, st.Fr, st.Gn, st.R, st.L, st.T, st.O, st.B, st.W⟩ : MS) E4 1) (cwV 1 ht (TW_V k_ml_M_117 k_im_M_raise k_se_M_raise k_in_M k_code_M_raise) rfl rfl rfl hv_M_raise ⟨Nat.le_of_ble_eq_true rfl, Nat.le_of_ble_eq_true rfl⟩) ⟨x_blind, va_recv hK hP rfl h5, x_pre hE hA hS hP hD⟩ rfl rfl hl.1 rfl (lv_room (Nat.le_of_ble_eq_true rfl)) d_M_coefficient_21 ⟨Nat.le_of_ble_eq_true rfl, Nat.le_of_ble_eq_true rfl⟩) hS (fun r37 w36 H locs q35 hP hD hS => ?_)
    obtain ⟨rfl, q35⟩ := q35
    have E38 : w36 = mW G a (⟨1, st.ex, st.va, st.co, st.sv, st.kn, st.kc, st.S, st.Kd, st.In, st.Hw, st.Fr, st.Gn, st.R, st.L, st.T, st.O, st.B, st.W⟩ : MS) := q35
    have h39 : w36[0]? = some (a.m, .inr (5, [.int (nI 1), .ref a.aS, .ref a.aK, .ref a.aI, .int (nI st.ex), .ref a.aH, .ref a.aF, .ref a.aG, .int (nI st.va), .ref a.aR, .int (nI st.co), .ref a.aL, .ref a.aT, .ref a.aO, .ref a.aB, .ref a.aW, .int (nI st.sv), .int (nI st.kn), .int (nI st.kc)])) := by rw [E38]; rfl
    exact x_iret hx hb hr hlocks hS hP hD (Nat.le_of_ble_eq_true rfl) (Nat.le_of_ble_eq_true rfl) d_M_coefficient_24 (⟨_, E38, Or.inr (Or.inl ⟨rfl, fun q => not_or2 m10 ((in_md (by omega)).mpr (by rw [hco]; exact q)), hM⟩)⟩)

set_option maxHeartbeats 4000000 in
set_option maxRecDepth 100000 in
theorem m_uses (l : Launch) (G : xG) (A : Nat → Prop) (ws : va_W) (a : MA) (st : MS) (hw : ws = mW G a st) (V : List VV) (E : List EE) (K : List KK) (inp : Nat) (w : Nat → Nat) (wV wC : Nat) (hM : MRel st V E K inp w wV wC) (hI : okI V E K inp wV wC) (x1 : Int32) : Met l y_M_uses (cw_M_uses :: TW) { frames := 7, cells := 0, slots := 0, locals := 182 } (va_Pc [.ref a.m, .int x1] (x_P G A ws)) (qI G A (fun r w9 => ∃ st' : MS, w9 = mW G a st' ∧ ((st'.th = 0 ∧ (∃ v, v < 60 ∧ x1 = nI v ∧ r = nI (usN K v K.length)) ∧ MRel st' V E K inp w wV wC) ∨ (st'.th = 1 ∧ (¬ md 60 x1) ∧ MRel st' V E K inp w wV wC)))) 0 0 A := by
  refine Met.ofW (cc := b_M_uses) (maxL := 5) (ret := (some .int)) (by decide) rfl ?_
  intro p e s m args below meth c s₁ B hml hv
  obtain ⟨rfl, hE, hA, hP, hD⟩ := hv
  have hx := B.exec
  have hb := B.bytes
  have hr := B.returns
  have ht : ∀ w ∈ TW, w.before _ s = true := fun w h => atoms_spec (ws := cw_M_uses :: TW) B.pre w (List.mem_cons_of_mem _ h)
  have hown : s.vm.findClass R_M = some m.cls := findClass_of_methodNamed B.named
  have hlocks := B.notSynchronized
  have hK := hE.1
  have hS : va_S A s.heap s.heap [] := va_S.rf
  have hl := lv_entry ([.ref a.m, .int x1]) (n := 5) (Nat.le_of_ble_eq_true rfl)
  rw [lg_entry_eq]
  generalize (lg_sl ([.ref a.m, .int x1]) ++ List.replicate (5 - (lg_sl ([.ref a.m, .int x1])).length) Slot.unset).toArray = ls at hl ⊢
  have hl : lv_has ls 5 [(0, .ref a.m), (1, .int x1)] := hl
  obtain ⟨i1, i2, i3, i4, i5, i6, i7, i8, i9⟩ := id hI
  have hco := hM.1.1
  have hva := hM.2.1.1
  have hex := hM.2.2.1.1
  have hS9 : ∀ e9 j, e9 < E.length → j < 60 → st.S (60 * e9 + j) = sE E e9 j := fun e9 j h1 h2 => (hM.2.2.1.2.1 e9 j h1 h2).1
  have hS8 : ∀ e9 j, e9 < E.length → j < 60 → sE E e9 j < 97 := fun e9 j h1 h2 => (hM.2.2.1.2.1 e9 j h1 h2).2.1
  have hS6 : ∀ e9, e9 < E.length → ∀ j, j < 60 → st.S (60 * e9 + j) < 97 := fun e9 h1 j h2 => by rw [hS9 e9 j h1 h2]; exact hS8 e9 j h1 h2
  have hS7 : ∀ e9 j, e9 < E.length → V.length ≤ j → j < 60 → sE E e9 j = 0 := fun e9 j h1 h3 h2 => (hM.2.2.1.2.1 e9 j h1 h2).2.2 h3
  have h1 : ws[0]? = some (a.m, .inr (5, [.int (nI st.th), .ref a.aS, .ref a.aK, .ref a.aI, .int (nI st.ex), .ref a.aH, .ref a.aF, .ref a.aG, .int (nI st.va), .ref a.aR, .int (nI st.co), .ref a.aL, .ref a.aT, .ref a.aO, .ref a.aB, .ref a.aW, .int (nI st.sv), .int (nI st.kn), .int (nI st.kc)])) := by rw [hw]; rfl
  refine lv_aload_n hx hb d_M_uses_0 rfl (lv_at hl 0 rfl) ?_
  refine lv_iconst (v := (nI 0)) hx hb d_M_uses_1 (by decide) ?_
  refine va_put (D := xD G) (ci := 5) (v := .int (nI 0)) (ty := .int) (C := R_M) (T := F_M) (N := 19) hx hb ht in_M ft_M fo_M nm_M hown hK hP hD hS 0 h1 rfl 0 (by decide) (ht _ k_fl_M_50) (fun _ h9 => h9) rfl (by decide +kernel) rfl rfl (Nat.le_of_ble_eq_true rfl) d_M_uses_2 (fun H locs hP hD hS => ?_)
  have hP : va_P (xD G) CL (ws.set 0 (a.m, .inr (5, [.int (nI 0), .ref a.aS, .ref a.aK, .ref a.aI, .int (nI st.ex), .ref a.aH, .ref a.aF, .ref a.aG, .int (nI st.va), .ref a.aR, .int (nI st.co), .ref a.aL, .ref a.aT, .ref a.aO, .ref a.aB, .ref a.aW, .int (nI st.sv), .int (nI st.kn), .int (nI st.kc)]))) H := hP
  have hD : va_D A (ws.set 0 (a.m, .inr (5, [.int (nI 0), .ref a.aS, .ref a.aK, .ref a.aI, .int (nI st.ex), .ref a.aH, .ref a.aF, .ref a.aG, .int (nI st.va), .ref a.aR, .int (nI st.co), .ref a.aL, .ref a.aT, .ref a.aO, .ref a.aB, .ref a.aW, .int (nI st.sv), .int (nI st.kn), .int (nI st.kc)]))) := hD
  obtain ⟨w2, e_w2⟩ : ∃ zz : va_W, zz = ws.set 0 (a.m, .inr (5, [.int (nI 0), .ref a.aS, .ref a.aK, .ref a.aI, .int (nI st.ex), .ref a.aH, .ref a.aF, .ref a.aG, .int (nI st.va), .ref a.aR, .int (nI st.co), .ref a.aL, .ref a.aT, .ref a.aO, .ref a.aB, .ref a.aW, .int (nI st.sv), .int (nI st.kn), .int (nI st.kc)])) := ⟨_, rfl⟩
  rw [← e_w2] at hP hD
  have h3 : w2[0]? = some (a.m, .inr (5, [.int (nI 0), .ref a.aS, .ref a.aK, .ref a.aI, .int (nI st.ex), .ref a.aH, .ref a.aF, .ref a.aG, .int (nI st.va), .ref a.aR, .int (nI st.co), .ref a.aL, .ref a.aT, .ref a.aO, .ref a.aB, .ref a.aW, .int (nI st.sv), .int (nI st.kn), .int (nI st.kc)])) := by rw [e_w2]; exact w_eq h1
  have E4 : w2 = mW G a (⟨0, st.ex, st.va, st.co, st.sv, st.kn, st.kc, st.S, st.Kd, st.In, st.Hw, st.Fr, st.Gn, st.R, st.L, st.T, st.O, st.B, st.W⟩ : MS) := by rw [e_w2, hw]; rfl
  have h5 : w2[0]? = some (a.m, .inr (5, [.int (nI 0), .ref a.aS, .ref a.aK, .ref a.aI, .int (nI st.ex), .ref a.aH, .ref a.aF, .ref a.aG, .int (nI st.va), .ref a.aR, .int (nI st.co), .ref a.aL, .ref a.aT, .ref a.aO, .ref a.aB, .ref a.aW, .int (nI st.sv), .int (nI st.kn), .int (nI st.kc)])) := by rw [E4]; rfl
  have h6 : w2[7]? = some (a.aR, aI G 14400 (rI st.R)) := by rw [E4]; rfl
  refine lv_iload_n hx hb d_M_uses_5 rfl (lv_at hl 1 rfl) ?_
  refine lv_iconst (v := (nI 0)) hx hb d_M_uses_6 (by decide) ?_
  refine lv_bipush (v := (nI 59)) hx hb d_M_uses_7 (by decide) ?_
  refine x_calli (va_runS (As := [.int x1, .int (nI 0), .int (nI 59)]) (rest := []) ⟨hx, hb, hml, hown, ht⟩ (c_M_in l G A w2 x1 (nI 0) (nI 59)) (va_cwS 3 ht (TW_S k_ml_M_56 k_st_M_in k_in_M k_code_M_in) rfl rfl rfl hv_M_in.2 ⟨Nat.le_of_ble_eq_true rfl, Nat.le_of_ble_eq_true rfl⟩) ⟨x_blind, x_pre hE hA hS hP hD⟩ rfl rfl hl.1 rfl (lv_room (Nat.le_of_ble_eq_true rfl)) d_M_uses_9 ⟨Nat.le_of_ble_eq_true rfl, Nat.le_of_ble_eq_true rfl⟩) hS (fun r9 w8 H locs q7 hP hD hS => ?_)
  obtain ⟨rfl, ⟨rfl, m10⟩ | ⟨rfl, m10⟩⟩ := q7
  · refine x_if_ne hx hb 1 rfl (by decide) (tgt := 21) d_M_uses_12 (by decide) (fun c11 => ?_) (fun c11 => ?_)
    rotate_left
    · exact False.elim (by omega)
    obtain ⟨jv, gj, rfl⟩ := (in_mdn (by decide)).mp m10
    refine lv_iconst (v := (nI 0)) hx hb d_M_uses_21 (by decide) ?_
    refine lv_istore_n (lv' := [(2, .int (nI 0)), (0, .ref a.m), (1, .int (nI jv))]) hx hb d_M_uses_22 rfl hl (by decide) rfl (fun ls hl => ?_)
    refine lv_iconst (v := (nI 0)) hx hb d_M_uses_23 (by decide) ?_
    refine lv_istore_n (lv' := [(3, .int (nI 0)), (2, .int (nI 0)), (0, .ref a.m), (1, .int (nI jv))]) hx hb d_M_uses_24 rfl hl (by decide) rfl (fun ls hl => ?_)
    have loop : ∀ (n i : Nat), i + n = st.co → ∀ (H : Heap) (locs : List Loc) (ls : Array Slot), (va_P (xD G) CL w2 H) → (va_S A s.heap H locs) → lv_has ls 5 [(3, .int (nI i)), (2, .int (nI (usN K jv i))), (0, .ref a.m), (1, .int (nI jv))] → W p l e (headSpec (cw_M_uses :: TW) { frames := 7, cells := 0, slots := 0, locals := 182 }).room s m ([.ref a.m, .int (nI jv)] : List Value).toArray below meth c H locs 0 0 (MQ below (qI G A (fun r w9 => ∃ st' : MS, w9 = mW G a st' ∧ ((st'.th = 0 ∧ (∃ v, v < 60 ∧ (nI jv) = nI v ∧ r = nI (usN K v K.length)) ∧ MRel st' V E K inp w wV wC) ∨ (st'.th = 1 ∧ (¬ md 60 (nI jv)) ∧ MRel st' V E K inp w wV wC)))) ([.ref a.m, .int (nI jv)] : List Value).toArray s 0 0 A) (F0 m 25 ls []) := by
      intro n
      induction n with
      | zero =>
        intro i hi H locs ls hP hS hl
        refine lv_iload_n hx hb d_M_uses_25 rfl (lv_at hl 0 rfl) ?_
        refine lv_aload_n hx hb d_M_uses_26 rfl (lv_at hl 2 rfl) ?_
        refine va_get (D := xD G) (ci := 5) (C := R_M) (T := F_M) (N := 19) hx hb ht in_M hown hK hP 0 h5 rfl 10 (by decide) (ht _ k_fl_M_72) (fun _ h9 => h9) rfl d_M_uses_27 ?_
        refine x_ge hx hb i st.co rfl rfl (by omega) (by omega) (tgt := 87) d_M_uses_30 (by decide) (fun c12 => ?_) (fun c12 => ?_)
        · have i0 : i = st.co := by omega
          refine lv_iload_n hx hb d_M_uses_87 rfl (lv_at hl 1 rfl) ?_
          exact x_iret hx hb hr hlocks hS hP hD (Nat.le_of_ble_eq_true rfl) (Nat.le_of_ble_eq_true rfl) d_M_uses_88 (⟨_, E4, Or.inl ⟨rfl, ⟨jv, gj, rfl, by rw [i0, hco]⟩, hM⟩⟩)
        · exact False.elim (by omega)
      | succ n ih =>
        intro i hi H locs ls hP hS hl
        refine lv_iload_n hx hb d_M_uses_25 rfl (lv_at hl 0 rfl) ?_
        refine lv_aload_n hx hb d_M_uses_26 rfl (lv_at hl 2 rfl) ?_
        refine va_get (D := xD G) (ci := 5) (C := R_M) (T := F_M) (N := 19) hx hb ht in_M hown hK hP 0 h5 rfl 10 (by decide) (ht _ k_fl_M_72) (fun _ h9 => h9) rfl d_M_uses_27 ?_
        refine x_ge hx hb i st.co rfl rfl (by omega) (by omega) (tgt := 87) d_M_uses_30 (by decide) (fun c13 => ?_) (fun c13 => ?_)
        · exact False.elim (by omega)
        · have ul := usN_le K jv i
          have q0 := hM.1.2 i 0 jv (by omega) (by decide) gj
          have b0 := q0.2.1
          have b0 : (kAt K i).1 jv < 97 := b0
          have q0 : st.R (180 * i + jv) = (kAt K i).1 jv := (congrArg st.R (show 180 * i + jv = 180 * i + 60 * 0 + jv by omega)).trans q0.1
          have q1 := hM.1.2 i 1 jv (by omega) (by decide) gj
          have b1 := q1.2.1
          have b1 : (kAt K i).2.1 jv < 97 := b1
          have q1 : st.R (180 * i + jv + 60) = (kAt K i).2.1 jv := (congrArg st.R (show 180 * i + jv + 60 = 180 * i + 60 * 1 + jv by omega)).trans q1.1
          have q2 := hM.1.2 i 2 jv (by omega) (by decide) gj
          have b2 := q2.2.1
          have b2 : (kAt K i).2.2 jv < 97 := b2
          have q2 : st.R (180 * i + jv + 120) = (kAt K i).2.2 jv := (congrArg st.R (show 180 * i + jv + 120 = 180 * i + 60 * 2 + jv by omega)).trans q2.1
          refine lv_sipush (v := (nI 180)) hx hb d_M_uses_33 (by decide) ?_
          refine lv_iload_n hx hb d_M_uses_36 rfl (lv_at hl 0 rfl) ?_
          refine lv_imul hx hb d_M_uses_37 ?_
          refine x_top (nI (180 * i)) (pk_mul _ _) ?_
          refine lv_iload_n hx hb d_M_uses_38 rfl (lv_at hl 3 rfl) ?_
          refine lv_iadd hx hb d_M_uses_39 ?_
          refine x_top (nI ((180 * i) + jv)) (nI_add _ _) ?_
          refine lv_istore (lv' := [(4, .int (nI ((180 * i) + jv))), (3, .int (nI i)), (2, .int (nI (usN K jv i))), (0, .ref a.m), (1, .int (nI jv))]) hx hb d_M_uses_40 hl (by decide) rfl (fun ls hl => ?_)
          refine lv_aload_n hx hb d_M_uses_42 rfl (lv_at hl 3 rfl) ?_
          refine va_get (D := xD G) (ci := 5) (C := R_M) (T := F_M) (N := 19) hx hb ht in_M hown hK hP 0 h5 rfl 9 (by decide) (ht _ k_fl_M_32) (fun _ h9 => h9) rfl d_M_uses_43 ?_
          refine lv_iload hx hb d_M_uses_46 (lv_at hl 0 rfl) ?_
          refine x_iald hx hb hK hP h6 ((180 * i) + jv) rfl (by omega) (by omega) d_M_uses_48 ?_
          refine x_top (nI ((kAt K i).1 jv)) (by rw [← q0]; rfl) ?_
          refine x_if_ne hx hb ((kAt K i).1 jv) rfl (by omega) (tgt := 78) d_M_uses_49 (by decide) (fun c14 => ?_) (fun c14 => ?_)
          · have e9 : usN K jv (i + 1) = usN K jv i + 1 := by show usN K jv i + _ = _; rw [if_pos (Or.inl c14)]
            refine lv_iinc (v := nI (usN K jv i + 1)) (lv' := [(2, .int (nI (usN K jv i + 1))), (4, .int (nI ((180 * i) + jv))), (3, .int (nI i)), (0, .ref a.m), (1, .int (nI jv))]) hx hb d_M_uses_78 hl (k := 2) rfl (n_inc _) (by decide) rfl (fun ls hl => ?_)
            refine lv_iinc (v := nI (i + 1)) (lv' := [(3, .int (nI (i + 1))), (2, .int (nI (usN K jv i + 1))), (4, .int (nI ((180 * i) + jv))), (0, .ref a.m), (1, .int (nI jv))]) hx hb d_M_uses_81 hl (k := 2) rfl (n_inc _) (by decide) rfl (fun ls hl => ?_)
            refine lv_goto (tgt := 25) hx hb d_M_uses_84 (by decide) ?_
            exact ih (i + 1) (by omega) H locs ls hP hS (by rw [e9]; exact (lv_sub hl [0, 1, 3, 4] rfl))
          · refine lv_aload_n hx hb d_M_uses_52 rfl (lv_at hl 3 rfl) ?_
            refine va_get (D := xD G) (ci := 5) (C := R_M) (T := F_M) (N := 19) hx hb ht in_M hown hK hP 0 h5 rfl 9 (by decide) (ht _ k_fl_M_32) (fun _ h9 => h9) rfl d_M_uses_53 ?_
            refine lv_iload hx hb d_M_uses_56 (lv_at hl 0 rfl) ?_
            refine lv_bipush (v := (nI 60)) hx hb d_M_uses_58 (by decide) ?_
            refine lv_iadd hx hb d_M_uses_60 ?_
            refine x_top (nI (((180 * i) + jv) + 60)) (nI_add _ _) ?_
            refine x_iald hx hb hK hP h6 (((180 * i) + jv) + 60) rfl (by omega) (by omega) d_M_uses_61 ?_
            refine x_top (nI ((kAt K i).2.1 jv)) (by rw [← q1]; rfl) ?_
            refine x_if_ne hx hb ((kAt K i).2.1 jv) rfl (by omega) (tgt := 78) d_M_uses_62 (by decide) (fun c15 => ?_) (fun c15 => ?_)
            · have e9 : usN K jv (i + 1) = usN K jv i + 1 := by show usN K jv i + _ = _; rw [if_pos (Or.inr (Or.inl c15))]
              refine lv_iinc (v := nI (usN K jv i + 1)) (lv' := [(2, .int (nI (usN K jv i + 1))), (4, .int (nI ((180 * i) + jv))), (3, .int (nI i)), (0, .ref a.m), (1, .int (nI jv))]) hx hb d_M_uses_78 hl (k := 2) rfl (n_inc _) (by decide) rfl (fun ls hl => ?_)
              refine lv_iinc (v := nI (i + 1)) (lv' := [(3, .int (nI (i + 1))), (2, .int (nI (usN K jv i + 1))), (4, .int (nI ((180 * i) + jv))), (0, .ref a.m), (1, .int (nI jv))]) hx hb d_M_uses_81 hl (k := 2) rfl (n_inc _) (by decide) rfl (fun ls hl => ?_)
              refine lv_goto (tgt := 25) hx hb d_M_uses_84 (by decide) ?_
              exact ih (i + 1) (by omega) H locs ls hP hS (by rw [e9]; exact (lv_sub hl [0, 1, 3, 4] rfl))
            · refine lv_aload_n hx hb d_M_uses_65 rfl (lv_at hl 3 rfl) ?_
              refine va_get (D := xD G) (ci := 5) (C := R_M) (T := F_M) (N := 19) hx hb ht in_M hown hK hP 0 h5 rfl 9 (by decide) (ht _ k_fl_M_32) (fun _ h9 => h9) rfl d_M_uses_66 ?_
              refine lv_iload hx hb d_M_uses_69 (lv_at hl 0 rfl) ?_
              refine lv_bipush (v := (nI 120)) hx hb d_M_uses_71 (by decide) ?_
              refine lv_iadd hx hb d_M_uses_73 ?_
              refine x_top (nI (((180 * i) + jv) + 120)) (nI_add _ _) ?_
              refine x_iald hx hb hK hP h6 (((180 * i) + jv) + 120) rfl (by omega) (by omega) d_M_uses_74 ?_
              refine x_top (nI ((kAt K i).2.2 jv)) (by rw [← q2]; rfl) ?_
              refine x_if_eq hx hb ((kAt K i).2.2 jv) rfl (by omega) (tgt := 81) d_M_uses_75 (by decide) (fun c16 => ?_) (fun c16 => ?_)
              · have e9 : usN K jv (i + 1) = usN K jv i + 0 := by show usN K jv i + _ = _; rw [if_neg (fun q => by rcases q with q | q | q; exact q c14; exact q c15; exact q c16)]
                refine lv_iinc (v := nI (i + 1)) (lv' := [(3, .int (nI (i + 1))), (4, .int (nI ((180 * i) + jv))), (2, .int (nI (usN K jv i))), (0, .ref a.m), (1, .int (nI jv))]) hx hb d_M_uses_81 hl (k := 1) rfl (n_inc _) (by decide) rfl (fun ls hl => ?_)
                refine lv_goto (tgt := 25) hx hb d_M_uses_84 (by decide) ?_
                exact ih (i + 1) (by omega) H locs ls hP hS (by rw [e9]; exact (lv_sub hl [0, 2, 3, 4] rfl))
              · have e9 : usN K jv (i + 1) = usN K jv i + 1 := by show usN K jv i + _ = _; rw [if_pos (Or.inr (Or.inr c16))]
                refine lv_iinc (v := nI (usN K jv i + 1)) (lv' := [(2, .int (nI (usN K jv i + 1))), (4, .int (nI ((180 * i) + jv))), (3, .int (nI i)), (0, .ref a.m), (1, .int (nI jv))]) hx hb d_M_uses_78 hl (k := 2) rfl (n_inc _) (by decide) rfl (fun ls hl => ?_)
                refine lv_iinc (v := nI (i + 1)) (lv' := [(3, .int (nI (i + 1))), (2, .int (nI (usN K jv i + 1))), (4, .int (nI ((180 * i) + jv))), (0, .ref a.m), (1, .int (nI jv))]) hx hb d_M_uses_81 hl (k := 2) rfl (n_inc _) (by decide) rfl (fun ls hl => ?_)
                refine lv_goto (tgt := 25) hx hb d_M_uses_84 (by decide) ?_
                exact ih (i + 1) (by omega) H locs ls hP hS (by rw [e9]; exact (lv_sub hl [0, 1, 3, 4] rfl))
    exact loop st.co 0 (by omega) H locs ls hP hS (lv_sub hl [0, 1, 2, 3] rfl)
  · refine x_if_ne hx hb 0 rfl (by decide) (tgt := 21) d_M_uses_12 (by decide) (fun c17 => ?_) (fun c17 => ?_)
    · exact False.elim (by omega)
    refine lv_aload_n hx hb d_M_uses_15 rfl (lv_at hl 0 rfl) ?_
    refine lv_iconst (v := (nI 1)) hx hb d_M_uses_16 (by decide) ?_
    refine x_calli (va_runV (As := [.int (nI 1)]) (rest := []) ⟨hx, hb, hml, hown, ht⟩ (c_M_raise l G A w2 a (⟨0, st.ex, st.va, st.co, st.sv, st.kn, st.kc, st.S, st.Kd, st.In, st.Hw, st.Fr, st.Gn, st.R, st.L, st.T, st.O, st.B, st.W⟩ : MS) E4 1) (cwV 1 ht (TW_V k_ml_M_117 k_im_M_raise k_se_M_raise k_in_M k_code_M_raise) rfl rfl rfl hv_M_raise ⟨Nat.le_of_ble_eq_true rfl, Nat.le_of_ble_eq_true rfl⟩) ⟨x_blind, va_recv hK hP rfl h5, x_pre hE hA hS hP hD⟩ rfl rfl hl.1 rfl (lv_room (Nat.le_of_ble_eq_true rfl)) d_M_uses_17 ⟨Nat.le_of_ble_eq_true rfl, Nat.le_of_ble_eq_true rfl⟩) hS (fun r20 w19 H locs q18 hP hD hS => ?_)
    obtain ⟨rfl, q18⟩ := q18
    have E21 : w19 = mW G a (⟨1, st.ex, st.va, st.co, st.sv, st.kn, st.kc, st.S, st.Kd, st.In, st.Hw, st.Fr, st.Gn, st.R, st.L, st.T, st.O, st.B, st.W⟩ : MS) := q18
    have h22 : w19[0]? = some (a.m, .inr (5, [.int (nI 1), .ref a.aS, .ref a.aK, .ref a.aI, .int (nI st.ex), .ref a.aH, .ref a.aF, .ref a.aG, .int (nI st.va), .ref a.aR, .int (nI st.co), .ref a.aL, .ref a.aT, .ref a.aO, .ref a.aB, .ref a.aW, .int (nI st.sv), .int (nI st.kn), .int (nI st.kc)])) := by rw [E21]; rfl
    exact x_iret hx hb hr hlocks hS hP hD (Nat.le_of_ble_eq_true rfl) (Nat.le_of_ble_eq_true rfl) d_M_uses_20 (⟨_, E21, Or.inr (⟨rfl, fun q => not_or2 m10 ((in_mdn (by decide)).mpr q), hM⟩)⟩)

set_option maxHeartbeats 4000000 in
set_option maxRecDepth 100000 in
theorem m_count (l : Launch) (G : xG) (A : Nat → Prop) (ws : va_W) (a : MA) (st : MS) (hw : ws = mW G a st) (V : List VV) (E : List EE) (K : List KK) (inp : Nat) (w : Nat → Nat) (wV wC : Nat) (hM : MRel st V E K inp w wV wC) (hI : okI V E K inp wV wC) (x1 : Int32) : Met l y_M_count (cw_M_count :: TW) { frames := 7, cells := 0, slots := 0, locals := 182 } (va_Pc [.ref a.m, .int x1] (x_P G A ws)) (qI G A (fun r w9 => ∃ st' : MS, w9 = mW G a st' ∧ ((st'.th = 0 ∧ (∃ k, k < 6 ∧ x1 = nI k ∧ r = nI (cnt k V E K inp wV)) ∧ MRel st' V E K inp w wV wC) ∨ (st'.th = 1 ∧ (¬ md 6 x1) ∧ MRel st' V E K inp w wV wC)))) 0 0 A := by
  refine Met.ofW (cc := b_M_count) (maxL := 4) (ret := (some .int)) (by decide) rfl ?_
  intro p e s m args below meth c s₁ B hml hv
  obtain ⟨rfl, hE, hA, hP, hD⟩ := hv
  have hx := B.exec
  have hb := B.bytes
  have hr := B.returns
  have ht : ∀ w ∈ TW, w.before _ s = true := fun w h => atoms_spec (ws := cw_M_count :: TW) B.pre w (List.mem_cons_of_mem _ h)
  have hown : s.vm.findClass R_M = some m.cls := findClass_of_methodNamed B.named
  have hlocks := B.notSynchronized
  have hK := hE.1
  have hS : va_S A s.heap s.heap [] := va_S.rf
  have hl := lv_entry ([.ref a.m, .int x1]) (n := 4) (Nat.le_of_ble_eq_true rfl)
  rw [lg_entry_eq]
  generalize (lg_sl ([.ref a.m, .int x1]) ++ List.replicate (4 - (lg_sl ([.ref a.m, .int x1])).length) Slot.unset).toArray = ls at hl ⊢
  have hl : lv_has ls 4 [(0, .ref a.m), (1, .int x1)] := hl
  obtain ⟨i1, i2, i3, i4, i5, i6, i7, i8, i9⟩ := id hI
  have hco := hM.1.1
  have hva := hM.2.1.1
  have hex := hM.2.2.1.1
  have hS9 : ∀ e9 j, e9 < E.length → j < 60 → st.S (60 * e9 + j) = sE E e9 j := fun e9 j h1 h2 => (hM.2.2.1.2.1 e9 j h1 h2).1
  have hS8 : ∀ e9 j, e9 < E.length → j < 60 → sE E e9 j < 97 := fun e9 j h1 h2 => (hM.2.2.1.2.1 e9 j h1 h2).2.1
  have hS6 : ∀ e9, e9 < E.length → ∀ j, j < 60 → st.S (60 * e9 + j) < 97 := fun e9 h1 j h2 => by rw [hS9 e9 j h1 h2]; exact hS8 e9 j h1 h2
  have hS7 : ∀ e9 j, e9 < E.length → V.length ≤ j → j < 60 → sE E e9 j = 0 := fun e9 j h1 h3 h2 => (hM.2.2.1.2.1 e9 j h1 h2).2.2 h3
  have hsv := hM.2.2.2.2.2.1
  have sv1 : st.sv ≤ 1 := by rw [hsv]; split <;> omega
  have sv0 : st.sv = 0 ↔ wV = 0 := by rw [hsv]; split <;> omega
  have hkn := hM.2.2.2.1
  have hkc := hM.2.2.2.2.1
  have h1 : ws[0]? = some (a.m, .inr (5, [.int (nI st.th), .ref a.aS, .ref a.aK, .ref a.aI, .int (nI st.ex), .ref a.aH, .ref a.aF, .ref a.aG, .int (nI st.va), .ref a.aR, .int (nI st.co), .ref a.aL, .ref a.aT, .ref a.aO, .ref a.aB, .ref a.aW, .int (nI st.sv), .int (nI st.kn), .int (nI st.kc)])) := by rw [hw]; rfl
  refine lv_aload_n hx hb d_M_count_0 rfl (lv_at hl 0 rfl) ?_
  refine lv_iconst (v := (nI 0)) hx hb d_M_count_1 (by decide) ?_
  refine va_put (D := xD G) (ci := 5) (v := .int (nI 0)) (ty := .int) (C := R_M) (T := F_M) (N := 19) hx hb ht in_M ft_M fo_M nm_M hown hK hP hD hS 0 h1 rfl 0 (by decide) (ht _ k_fl_M_50) (fun _ h9 => h9) rfl (by decide +kernel) rfl rfl (Nat.le_of_ble_eq_true rfl) d_M_count_2 (fun H locs hP hD hS => ?_)
  have hP : va_P (xD G) CL (ws.set 0 (a.m, .inr (5, [.int (nI 0), .ref a.aS, .ref a.aK, .ref a.aI, .int (nI st.ex), .ref a.aH, .ref a.aF, .ref a.aG, .int (nI st.va), .ref a.aR, .int (nI st.co), .ref a.aL, .ref a.aT, .ref a.aO, .ref a.aB, .ref a.aW, .int (nI st.sv), .int (nI st.kn), .int (nI st.kc)]))) H := hP
  have hD : va_D A (ws.set 0 (a.m, .inr (5, [.int (nI 0), .ref a.aS, .ref a.aK, .ref a.aI, .int (nI st.ex), .ref a.aH, .ref a.aF, .ref a.aG, .int (nI st.va), .ref a.aR, .int (nI st.co), .ref a.aL, .ref a.aT, .ref a.aO, .ref a.aB, .ref a.aW, .int (nI st.sv), .int (nI st.kn), .int (nI st.kc)]))) := hD
  obtain ⟨w2, e_w2⟩ : ∃ zz : va_W, zz = ws.set 0 (a.m, .inr (5, [.int (nI 0), .ref a.aS, .ref a.aK, .ref a.aI, .int (nI st.ex), .ref a.aH, .ref a.aF, .ref a.aG, .int (nI st.va), .ref a.aR, .int (nI st.co), .ref a.aL, .ref a.aT, .ref a.aO, .ref a.aB, .ref a.aW, .int (nI st.sv), .int (nI st.kn), .int (nI st.kc)])) := ⟨_, rfl⟩
  rw [← e_w2] at hP hD
  have h3 : w2[0]? = some (a.m, .inr (5, [.int (nI 0), .ref a.aS, .ref a.aK, .ref a.aI, .int (nI st.ex), .ref a.aH, .ref a.aF, .ref a.aG, .int (nI st.va), .ref a.aR, .int (nI st.co), .ref a.aL, .ref a.aT, .ref a.aO, .ref a.aB, .ref a.aW, .int (nI st.sv), .int (nI st.kn), .int (nI st.kc)])) := by rw [e_w2]; exact w_eq h1
  have E4 : w2 = mW G a (⟨0, st.ex, st.va, st.co, st.sv, st.kn, st.kc, st.S, st.Kd, st.In, st.Hw, st.Fr, st.Gn, st.R, st.L, st.T, st.O, st.B, st.W⟩ : MS) := by rw [e_w2, hw]; rfl
  have h5 : w2[0]? = some (a.m, .inr (5, [.int (nI 0), .ref a.aS, .ref a.aK, .ref a.aI, .int (nI st.ex), .ref a.aH, .ref a.aF, .ref a.aG, .int (nI st.va), .ref a.aR, .int (nI st.co), .ref a.aL, .ref a.aT, .ref a.aO, .ref a.aB, .ref a.aW, .int (nI st.sv), .int (nI st.kn), .int (nI st.kc)])) := by rw [E4]; rfl
  have h6 : w2[2]? = some (a.aK, aI G 60 (rI st.Kd)) := by rw [E4]; rfl
  refine lv_iconst (v := (nI 0)) hx hb d_M_count_5 (by decide) ?_
  refine lv_istore_n (lv' := [(2, .int (nI 0)), (0, .ref a.m), (1, .int x1)]) hx hb d_M_count_6 rfl hl (by decide) rfl (fun ls hl => ?_)
  refine lv_iload_n hx hb d_M_count_7 rfl (lv_at hl 2 rfl) ?_
  by_cases hm : md 6 x1
  · obtain ⟨k, hk, rfl⟩ := id hm
    have hk9 : k = 0 ∨ k = 1 ∨ k = 2 ∨ k = 3 ∨ k = 4 ∨ k = 5 := by omega
    rcases hk9 with rfl | rfl | rfl | rfl | rfl | rfl
    · refine lv_tableIn (off := 40) (tgt := 48) hx hb d_M_count_8 (by decide) (by decide) (by decide) (by decide) ?_
      refine lv_aload_n hx hb d_M_count_48 rfl (lv_at hl 1 rfl) ?_
      refine va_get (D := xD G) (ci := 5) (C := R_M) (T := F_M) (N := 19) hx hb ht in_M hown hK hP 0 h5 rfl 4 (by decide) (ht _ k_fl_M_53) (fun _ h9 => h9) rfl d_M_count_49 ?_
      exact x_iret hx hb hr hlocks hS hP hD (Nat.le_of_ble_eq_true rfl) (Nat.le_of_ble_eq_true rfl) d_M_count_52 (⟨_, E4, Or.inl ⟨rfl, ⟨0, hk, rfl, by rw [hex]; rfl⟩, hM⟩⟩)
    · refine lv_tableIn (off := 45) (tgt := 53) hx hb d_M_count_8 (by decide) (by decide) (by decide) (by decide) ?_
      refine lv_aload_n hx hb d_M_count_53 rfl (lv_at hl 1 rfl) ?_
      refine va_get (D := xD G) (ci := 5) (C := R_M) (T := F_M) (N := 19) hx hb ht in_M hown hK hP 0 h5 rfl 8 (by decide) (ht _ k_fl_M_28) (fun _ h9 => h9) rfl d_M_count_54 ?_
      exact x_iret hx hb hr hlocks hS hP hD (Nat.le_of_ble_eq_true rfl) (Nat.le_of_ble_eq_true rfl) d_M_count_57 (⟨_, E4, Or.inl ⟨rfl, ⟨1, hk, rfl, by rw [hva]; rfl⟩, hM⟩⟩)
    · refine lv_tableIn (off := 50) (tgt := 58) hx hb d_M_count_8 (by decide) (by decide) (by decide) (by decide) ?_
      refine lv_aload_n hx hb d_M_count_58 rfl (lv_at hl 1 rfl) ?_
      refine va_get (D := xD G) (ci := 5) (C := R_M) (T := F_M) (N := 19) hx hb ht in_M hown hK hP 0 h5 rfl 10 (by decide) (ht _ k_fl_M_72) (fun _ h9 => h9) rfl d_M_count_59 ?_
      exact x_iret hx hb hr hlocks hS hP hD (Nat.le_of_ble_eq_true rfl) (Nat.le_of_ble_eq_true rfl) d_M_count_62 (⟨_, E4, Or.inl ⟨rfl, ⟨2, hk, rfl, by rw [hco]; rfl⟩, hM⟩⟩)
    · refine lv_tableIn (off := 55) (tgt := 63) hx hb d_M_count_8 (by decide) (by decide) (by decide) (by decide) ?_
      refine lv_iconst (v := (nI 0)) hx hb d_M_count_63 (by decide) ?_
      refine lv_istore_n (lv' := [(3, .int (nI 0)), (2, .int (nI 0)), (0, .ref a.m), (1, .int (nI 3))]) hx hb d_M_count_64 rfl hl (by decide) rfl (fun ls hl => ?_)
      have loop : ∀ (n i : Nat), i + n = st.ex → ∀ (H : Heap) (locs : List Loc) (ls : Array Slot), (va_P (xD G) CL w2 H) → (va_S A s.heap H locs) → lv_has ls 4 [(3, .int (nI i)), (2, .int (nI (ct1 st.Kd i))), (0, .ref a.m), (1, .int (nI 3))] → W p l e (headSpec (cw_M_count :: TW) { frames := 7, cells := 0, slots := 0, locals := 182 }).room s m ([.ref a.m, .int (nI 3)] : List Value).toArray below meth c H locs 0 0 (MQ below (qI G A (fun r w9 => ∃ st' : MS, w9 = mW G a st' ∧ ((st'.th = 0 ∧ (∃ k, k < 6 ∧ (nI 3) = nI k ∧ r = nI (cnt k V E K inp wV)) ∧ MRel st' V E K inp w wV wC) ∨ (st'.th = 1 ∧ (¬ md 6 (nI 3)) ∧ MRel st' V E K inp w wV wC)))) ([.ref a.m, .int (nI 3)] : List Value).toArray s 0 0 A) (F0 m 65 ls []) := by
        intro n
        induction n with
        | zero =>
          intro i hi H locs ls hP hS hl
          refine lv_iload_n hx hb d_M_count_65 rfl (lv_at hl 0 rfl) ?_
          refine lv_aload_n hx hb d_M_count_66 rfl (lv_at hl 2 rfl) ?_
          refine va_get (D := xD G) (ci := 5) (C := R_M) (T := F_M) (N := 19) hx hb ht in_M hown hK hP 0 h5 rfl 4 (by decide) (ht _ k_fl_M_53) (fun _ h9 => h9) rfl d_M_count_67 ?_
          refine x_ge hx hb i st.ex rfl rfl (by omega) (by omega) (tgt := 92) d_M_count_70 (by decide) (fun c7 => ?_) (fun c7 => ?_)
          · have i0 : i = st.ex := by omega
            refine lv_iload_n hx hb d_M_count_92 rfl (lv_at hl 1 rfl) ?_
            exact x_iret hx hb hr hlocks hS hP hD (Nat.le_of_ble_eq_true rfl) (Nat.le_of_ble_eq_true rfl) d_M_count_93 (⟨_, E4, Or.inl ⟨rfl, ⟨3, hk, rfl, by rw [i0, hex]; show _ = nI inp; rw [hM.2.2.1.2.2.2]⟩, hM⟩⟩)
          · exact False.elim (by omega)
        | succ n ih =>
          intro i hi H locs ls hP hS hl
          refine lv_iload_n hx hb d_M_count_65 rfl (lv_at hl 0 rfl) ?_
          refine lv_aload_n hx hb d_M_count_66 rfl (lv_at hl 2 rfl) ?_
          refine va_get (D := xD G) (ci := 5) (C := R_M) (T := F_M) (N := 19) hx hb ht in_M hown hK hP 0 h5 rfl 4 (by decide) (ht _ k_fl_M_53) (fun _ h9 => h9) rfl d_M_count_67 ?_
          refine x_ge hx hb i st.ex rfl rfl (by omega) (by omega) (tgt := 92) d_M_count_70 (by decide) (fun c8 => ?_) (fun c8 => ?_)
          · exact False.elim (by omega)
          · have cl := ct1_le st.Kd i
            have b9 := (hM.2.2.1.2.2.1 i (by omega)).2.2.1
            refine lv_aload_n hx hb d_M_count_73 rfl (lv_at hl 2 rfl) ?_
            refine va_get (D := xD G) (ci := 5) (C := R_M) (T := F_M) (N := 19) hx hb ht in_M hown hK hP 0 h5 rfl 2 (by decide) (ht _ k_fl_M_13) (fun _ h9 => h9) rfl d_M_count_74 ?_
            refine lv_iload_n hx hb d_M_count_77 rfl (lv_at hl 0 rfl) ?_
            refine x_iald hx hb hK hP h6 i rfl (by omega) (by omega) d_M_count_78 ?_
            refine x_top (nI (st.Kd i)) (rfl) ?_
            refine lv_iconst (v := (nI 1)) hx hb d_M_count_79 (by decide) ?_
            refine x_ne hx hb (st.Kd i) 1 rfl rfl (by omega) (by omega) (tgt := 86) d_M_count_80 (by decide) (fun c9 => ?_) (fun c9 => ?_)
            · have e9 : ct1 st.Kd (i + 1) = ct1 st.Kd i := by show ct1 st.Kd i + _ = _; rw [if_neg c9, Nat.add_zero]
              refine lv_iinc (v := nI (i + 1)) (lv' := [(3, .int (nI (i + 1))), (2, .int (nI (ct1 st.Kd i))), (0, .ref a.m), (1, .int (nI 3))]) hx hb d_M_count_86 hl (k := 0) rfl (n_inc _) (by decide) rfl (fun ls hl => ?_)
              refine lv_goto (tgt := 65) hx hb d_M_count_89 (by decide) ?_
              exact ih (i + 1) (by omega) H locs ls hP hS (by rw [e9]; exact (lv_sub hl [0, 1, 2, 3] rfl))
            · have e9 : ct1 st.Kd (i + 1) = ct1 st.Kd i + 1 := by show ct1 st.Kd i + _ = _; rw [if_pos c9]
              refine lv_iinc (v := nI (ct1 st.Kd i + 1)) (lv' := [(2, .int (nI (ct1 st.Kd i + 1))), (3, .int (nI i)), (0, .ref a.m), (1, .int (nI 3))]) hx hb d_M_count_83 hl (k := 1) rfl (n_inc _) (by decide) rfl (fun ls hl => ?_)
              refine lv_iinc (v := nI (i + 1)) (lv' := [(3, .int (nI (i + 1))), (2, .int (nI (ct1 st.Kd i + 1))), (0, .ref a.m), (1, .int (nI 3))]) hx hb d_M_count_86 hl (k := 1) rfl (n_inc _) (by decide) rfl (fun ls hl => ?_)
              refine lv_goto (tgt := 65) hx hb d_M_count_89 (by decide) ?_
              exact ih (i + 1) (by omega) H locs ls hP hS (by rw [e9]; exact (lv_sub hl [0, 1, 2, 3] rfl))
      exact loop st.ex 0 (by omega) H locs ls hP hS (lv_sub hl [0, 1, 2, 3] rfl)
    · refine lv_tableIn (off := 86) (tgt := 94) hx hb d_M_count_8 (by decide) (by decide) (by decide) (by decide) ?_
      refine lv_aload_n hx hb d_M_count_94 rfl (lv_at hl 1 rfl) ?_
      refine va_get (D := xD G) (ci := 5) (C := R_M) (T := F_M) (N := 19) hx hb ht in_M hown hK hP 0 h5 rfl 16 (by decide) (ht _ k_fl_M_135) (fun _ h9 => h9) rfl d_M_count_95 ?_
      refine x_if_eq hx hb st.sv rfl (by omega) (tgt := 105) d_M_count_98 (by decide) (fun c10 => ?_) (fun c10 => ?_)
      · refine lv_iconst (v := (nI 0)) hx hb d_M_count_105 (by decide) ?_
        exact x_iret hx hb hr hlocks hS hP hD (Nat.le_of_ble_eq_true rfl) (Nat.le_of_ble_eq_true rfl) d_M_count_106 (⟨_, E4, Or.inl ⟨rfl, ⟨4, hk, rfl, by have := sv0.mp c10; simp [cnt, this]⟩, hM⟩⟩)
      · refine lv_iconst (v := (nI 1)) hx hb d_M_count_101 (by decide) ?_
        refine lv_goto (tgt := 106) hx hb d_M_count_102 (by decide) ?_
        have e9 : 0 < wV := by omega
        exact x_iret hx hb hr hlocks hS hP hD (Nat.le_of_ble_eq_true rfl) (Nat.le_of_ble_eq_true rfl) d_M_count_106 (⟨_, E4, Or.inl ⟨rfl, ⟨4, hk, rfl, by simp [cnt, e9]⟩, hM⟩⟩)
    · refine lv_tableIn (off := 99) (tgt := 107) hx hb d_M_count_8 (by decide) (by decide) (by decide) (by decide) ?_
      refine lv_aload_n hx hb d_M_count_107 rfl (lv_at hl 1 rfl) ?_
      refine va_get (D := xD G) (ci := 5) (C := R_M) (T := F_M) (N := 19) hx hb ht in_M hown hK hP 0 h5 rfl 16 (by decide) (ht _ k_fl_M_135) (fun _ h9 => h9) rfl d_M_count_108 ?_
      refine x_if_eq hx hb st.sv rfl (by omega) (tgt := 121) d_M_count_111 (by decide) (fun c11 => ?_) (fun c11 => ?_)
      · refine lv_iconst (v := (nI 0)) hx hb d_M_count_121 (by decide) ?_
        have e9 := sv0.mp c11
        exact x_iret hx hb hr hlocks hS hP hD (Nat.le_of_ble_eq_true rfl) (Nat.le_of_ble_eq_true rfl) d_M_count_122 (⟨_, E4, Or.inl ⟨rfl, ⟨5, hk, rfl, by simp [cnt, e9]⟩, hM⟩⟩)
      · refine lv_aload_n hx hb d_M_count_114 rfl (lv_at hl 1 rfl) ?_
        refine va_get (D := xD G) (ci := 5) (C := R_M) (T := F_M) (N := 19) hx hb ht in_M hown hK hP 0 h5 rfl 17 (by decide) (ht _ k_fl_M_139) (fun _ h9 => h9) rfl d_M_count_115 ?_
        refine lv_goto (tgt := 122) hx hb d_M_count_118 (by decide) ?_
        exact x_iret hx hb hr hlocks hS hP hD (Nat.le_of_ble_eq_true rfl) (Nat.le_of_ble_eq_true rfl) d_M_count_122 (⟨_, E4, Or.inl ⟨rfl, ⟨5, hk, rfl, by rw [hkn]; rfl⟩, hM⟩⟩)
  · refine lv_tableOut (tgt := 123) hx hb d_M_count_8 (by have := not_md (by decide) hm; omega) (by decide) ?_
    refine lv_aload_n hx hb d_M_count_123 rfl (lv_at hl 1 rfl) ?_
    refine lv_iconst (v := (nI 1)) hx hb d_M_count_124 (by decide) ?_
    refine x_calli (va_runV (As := [.int (nI 1)]) (rest := []) ⟨hx, hb, hml, hown, ht⟩ (c_M_raise l G A w2 a (⟨0, st.ex, st.va, st.co, st.sv, st.kn, st.kc, st.S, st.Kd, st.In, st.Hw, st.Fr, st.Gn, st.R, st.L, st.T, st.O, st.B, st.W⟩ : MS) E4 1) (cwV 1 ht (TW_V k_ml_M_117 k_im_M_raise k_se_M_raise k_in_M k_code_M_raise) rfl rfl rfl hv_M_raise ⟨Nat.le_of_ble_eq_true rfl, Nat.le_of_ble_eq_true rfl⟩) ⟨x_blind, va_recv hK hP rfl h5, x_pre hE hA hS hP hD⟩ rfl rfl hl.1 rfl (lv_room (Nat.le_of_ble_eq_true rfl)) d_M_count_125 ⟨Nat.le_of_ble_eq_true rfl, Nat.le_of_ble_eq_true rfl⟩) hS (fun r14 w13 H locs q12 hP hD hS => ?_)
    obtain ⟨rfl, q12⟩ := q12
    have E15 : w13 = mW G a (⟨1, st.ex, st.va, st.co, st.sv, st.kn, st.kc, st.S, st.Kd, st.In, st.Hw, st.Fr, st.Gn, st.R, st.L, st.T, st.O, st.B, st.W⟩ : MS) := q12
    have h16 : w13[0]? = some (a.m, .inr (5, [.int (nI 1), .ref a.aS, .ref a.aK, .ref a.aI, .int (nI st.ex), .ref a.aH, .ref a.aF, .ref a.aG, .int (nI st.va), .ref a.aR, .int (nI st.co), .ref a.aL, .ref a.aT, .ref a.aO, .ref a.aB, .ref a.aW, .int (nI st.sv), .int (nI st.kn), .int (nI st.kc)])) := by rw [E15]; rfl
    exact x_iret hx hb hr hlocks hS hP hD (Nat.le_of_ble_eq_true rfl) (Nat.le_of_ble_eq_true rfl) d_M_count_128 (⟨_, E15, Or.inr (⟨rfl, hm, hM⟩)⟩)
