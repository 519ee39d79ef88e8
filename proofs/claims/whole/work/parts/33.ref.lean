def wkS (kd : Nat) (E : List EE) (s : VK) (x1 x2 x3 : Int32) : VK × (Nat → Nat) := if kd = 1 then ((s.1 ++ [(1, zr, zr, 0)], s.2), unit s.1.length) else mkSum kd E s x1 x2 x3
theorem md97 {n : Nat} (h : n < 97) : (0 + 1 * n) % 97 = n := by omega

set_option maxHeartbeats 4000000 in
set_option maxRecDepth 100000 in
theorem c_M_work (l : Launch) (G : xG) (A : Nat → Prop) (ws : va_W) (a : MA) (st : MS) (hw : ws = mW G a st) (V : List VV) (E : List EE) (K : List KK) (inp : Nat) (w : Nat → Nat) (wV wC : Nat) (hM : MRel st V E K inp w wV wC) (bE : E.length < 60) (kd : Nat) (x1 x2 x3 : Int32) (hf : wfd kd E.length x1 x2 x3) (bV : V.length + (if kd = 1 then 1 else nd kd E x1 x2 x3) ≤ 60) (bK : K.length + nd kd E x1 x2 x3 ≤ 80) : Met l y_M_work (cw_M_work :: TW) { frames := 5, cells := 0, slots := 0, locals := 130 } (va_Pc [.ref a.m, .int (nI kd), .int x1, .int x2, .int x3] (x_P G A ws)) (qV G A (fun w9 => ∃ st' : MS, w9 = mW G a st' ∧ MRel st' (wkS kd E (V, K) x1 x2 x3).1.1 E (wkS kd E (V, K) x1 x2 x3).1.2 inp w wV wC ∧ (∀ j, j < 60 → st'.L j = (wkS kd E (V, K) x1 x2 x3).2 j) ∧ (∀ j, (wkS kd E (V, K) x1 x2 x3).1.1.length ≤ j → j < 60 → (wkS kd E (V, K) x1 x2 x3).2 j = 0) ∧ (∀ j, j < 60 → (wkS kd E (V, K) x1 x2 x3).2 j < 97) ∧ st'.th = st.th ∧ (kd = 1 → st'.In E.length = V.length))) 0 0 A := by
  refine Met.ofW (cc := b_M_work) (maxL := 6) (ret := none) (by decide) rfl ?_
  intro p e s m args below meth c s₁ B hml hv
  obtain ⟨rfl, hE, hA, hP, hD⟩ := hv
  have hx := B.exec
  have hb := B.bytes
  have hr := B.returns
  have ht : ∀ w ∈ TW, w.before _ s = true := fun w h => atoms_spec (ws := cw_M_work :: TW) B.pre w (List.mem_cons_of_mem _ h)
  have hown : s.vm.findClass R_M = some m.cls := findClass_of_methodNamed B.named
  have hlocks := B.notSynchronized
  have hK := hE.1
  have hS : va_S A s.heap s.heap [] := va_S.rf
  have hl := lv_entry ([.ref a.m, .int (nI kd), .int x1, .int x2, .int x3]) (n := 6) (Nat.le_of_ble_eq_true rfl)
  rw [lg_entry_eq]
  generalize (lg_sl ([.ref a.m, .int (nI kd), .int x1, .int x2, .int x3]) ++ List.replicate (6 - (lg_sl ([.ref a.m, .int (nI kd), .int x1, .int x2, .int x3])).length) Slot.unset).toArray = ls at hl ⊢
  have hl : lv_has ls 6 [(0, .ref a.m), (1, .int (nI kd)), (2, .int x1), (3, .int x2), (4, .int x3)] := hl
  have hco := hM.1.1
  have hva := hM.2.1.1
  have hex := hM.2.2.1.1
  have hS9 : ∀ e9 j, e9 < E.length → j < 60 → st.S (60 * e9 + j) = sE E e9 j := fun e9 j h1 h2 => (hM.2.2.1.2.1 e9 j h1 h2).1
  have hS8 : ∀ e9 j, e9 < E.length → j < 60 → sE E e9 j < 97 := fun e9 j h1 h2 => (hM.2.2.1.2.1 e9 j h1 h2).2.1
  have hS6 : ∀ e9, e9 < E.length → ∀ j, j < 60 → st.S (60 * e9 + j) < 97 := fun e9 h1 j h2 => by rw [hS9 e9 j h1 h2]; exact hS8 e9 j h1 h2
  have hS7 : ∀ e9 j, e9 < E.length → V.length ≤ j → j < 60 → sE E e9 j = 0 := fun e9 j h1 h3 h2 => (hM.2.2.1.2.1 e9 j h1 h2).2.2 h3
  have h1 : ws[0]? = some (a.m, .inr (5, [.int (nI st.th), .ref a.aS, .ref a.aK, .ref a.aI, .int (nI st.ex), .ref a.aH, .ref a.aF, .ref a.aG, .int (nI st.va), .ref a.aR, .int (nI st.co), .ref a.aL, .ref a.aT, .ref a.aO, .ref a.aB, .ref a.aW, .int (nI st.sv), .int (nI st.kn), .int (nI st.kc)])) := by rw [hw]; rfl
  have h2 : ws[8]? = some (a.aL, aI G 60 (rI st.L)) := by rw [hw]; rfl
  have h3 : ws[9]? = some (a.aT, aI G 60 (rI st.T)) := by rw [hw]; rfl
  have hv1 := hM.2.1.2.1
  obtain ⟨w1, w2, w3, w4, w5⟩ := hf
  have hk9 : kd = 0 ∨ kd = 1 ∨ kd = 2 ∨ kd = 3 ∨ kd = 4 ∨ kd = 5 ∨ kd = 6 ∨ kd = 7 ∨ kd = 8 ∨ kd = 9 := by omega
  rcases hk9 with rfl | rfl | rfl | rfl | rfl | rfl | rfl | rfl | rfl | rfl
  · refine lv_iload_n hx hb d_M_work_0 rfl (lv_at hl 1 rfl) ?_
    refine lv_tableIn (off := 51) (tgt := 52) hx hb d_M_work_1 (by decide) (by decide) (by decide) (by decide) ?_
    have n7 : nd 0 E x1 x2 x3 = 0 := by simp [nd]
    rw [n7] at bK
    rw [if_neg (by decide), n7] at bV
    refine lv_aload_n hx hb d_M_work_52 rfl (lv_at hl 0 rfl) ?_
    refine va_get (D := xD G) (ci := 5) (C := R_M) (T := F_M) (N := 19) hx hb ht in_M hown hK hP 0 h1 rfl 11 (by decide) (ht _ k_fl_M_35) (fun _ h9 => h9) rfl d_M_work_53 ?_
    refine lv_iload_n hx hb d_M_work_56 rfl (lv_at hl 2 rfl) ?_
    refine x_callv (va_runS (As := [.ref a.aL, .int x1]) (rest := []) ⟨hx, hb, hml, hown, ht⟩ (c_M_number l G A ws 8 a.aL st.L h2 x1) (va_cwS 2 ht (TW_S k_ml_M_64 k_st_M_number k_in_M k_code_M_number) rfl rfl rfl hv_M_number.2 ⟨Nat.le_of_ble_eq_true rfl, Nat.le_of_ble_eq_true rfl⟩) ⟨x_blind, x_pre hE hA hS hP hD⟩ rfl rfl hl.1 rfl (lv_room (Nat.le_of_ble_eq_true rfl)) d_M_work_57 ⟨Nat.le_of_ble_eq_true rfl, Nat.le_of_ble_eq_true rfl⟩) hS (fun w5 H locs q4 hP hD hS => ?_)
    have q4 : w5 = ws.set 8 (a.aL, aI G 60 (rI (ovb 60 0 st.L (nmb (rm x1))))) := q4
    obtain ⟨u6, e_u6⟩ : ∃ zz : Nat → Nat, zz = ovb 60 0 st.L (nmb (rm x1)) := ⟨_, rfl⟩
    rw [← e_u6] at q4
    have h_u6 : ∀ j, j < 60 → u6 j = nmb (rm x1) j := fun j hj => by rw [e_u6, ovb_at hj]
    have E7 : w5 = mW G a (⟨st.th, st.ex, st.va, st.co, st.sv, st.kn, st.kc, st.S, st.Kd, st.In, st.Hw, st.Fr, st.Gn, st.R, u6, st.T, st.O, st.B, st.W⟩ : MS) := by rw [q4, hw]; rfl
    have h8 : w5[0]? = some (a.m, .inr (5, [.int (nI st.th), .ref a.aS, .ref a.aK, .ref a.aI, .int (nI st.ex), .ref a.aH, .ref a.aF, .ref a.aG, .int (nI st.va), .ref a.aR, .int (nI st.co), .ref a.aL, .ref a.aT, .ref a.aO, .ref a.aB, .ref a.aW, .int (nI st.sv), .int (nI st.kn), .int (nI st.kc)])) := by rw [E7]; rfl
    have h9 : w5[8]? = some (a.aL, aI G 60 (rI u6)) := by rw [E7]; rfl
    have h10 : w5[9]? = some (a.aT, aI G 60 (rI st.T)) := by rw [E7]; rfl
    have e7 : wkS 0 E (V, K) x1 x2 x3 = ((V, K), cmb (rm x1) (unit 0) 0 (unit 0)) := by simp [wkS, mkSum]
    have bx := rm_lt x1
    have eL : ∀ j, j < 60 → u6 j = cmb (rm x1) (unit 0) 0 (unit 0) j := fun j hj => by rw [h_u6 j hj]; unfold nmb cmb unit; by_cases q : j = 0; rw [if_pos q, if_pos q]; omega; rw [if_neg q, if_neg q]; omega
    have eS : ∀ j, V.length ≤ j → j < 60 → cmb (rm x1) (unit 0) 0 (unit 0) j = 0 := fun j h1 hj => by simp [cmb, unit_0 (show j ≠ 0 by omega)]
    refine lv_goto (tgt := 275) hx hb d_M_work_60 (by decide) ?_
    exact x_vret hx hb hr hlocks hS hP hD (Nat.le_of_ble_eq_true rfl) (Nat.le_of_ble_eq_true rfl) d_M_work_275 (⟨_, E7, by rw [e7]; exact hM, by rw [e7]; exact eL, by rw [e7]; exact eS, by rw [e7]; exact (fun j _ => cmb_lt j), rfl, fun q => absurd q (by decide)⟩)
  · refine lv_iload_n hx hb d_M_work_0 rfl (lv_at hl 1 rfl) ?_
    refine lv_tableIn (off := 62) (tgt := 63) hx hb d_M_work_1 (by decide) (by decide) (by decide) (by decide) ?_
    have n7 : nd 1 E x1 x2 x3 = 0 := by simp [nd]
    rw [n7] at bK
    have bV : V.length + 1 ≤ 60 := bV
    refine lv_aload_n hx hb d_M_work_63 rfl (lv_at hl 0 rfl) ?_
    have h11 : ws[0]? = some (a.m, .inr (5, [.int (nI st.th), .ref a.aS, .ref a.aK, .ref a.aI, .int (nI st.ex), .ref a.aH, .ref a.aF, .ref a.aG, .int (nI st.va), .ref a.aR, .int (nI st.co), .ref a.aL, .ref a.aT, .ref a.aO, .ref a.aB, .ref a.aW, .int (nI st.sv), .int (nI st.kn), .int (nI st.kc)])) := by rw [hw]; rfl
    have h12 : ws[8]? = some (a.aL, aI G 60 (rI st.L)) := by rw [hw]; rfl
    have h13 : ws[9]? = some (a.aT, aI G 60 (rI st.T)) := by rw [hw]; rfl
    have h14 : ws[3]? = some (a.aI, aI G 60 (rI st.In)) := by rw [hw]; rfl
    refine va_get (D := xD G) (ci := 5) (C := R_M) (T := F_M) (N := 19) hx hb ht in_M hown hK hP 0 h11 rfl 3 (by decide) (ht _ k_fl_M_16) (fun _ h9 => h9) rfl d_M_work_64 ?_
    refine lv_aload_n hx hb d_M_work_67 rfl (lv_at hl 0 rfl) ?_
    refine va_get (D := xD G) (ci := 5) (C := R_M) (T := F_M) (N := 19) hx hb ht in_M hown hK hP 0 h11 rfl 4 (by decide) (ht _ k_fl_M_53) (fun _ h9 => h9) rfl d_M_work_68 ?_
    refine lv_aload_n hx hb d_M_work_71 rfl (lv_at hl 0 rfl) ?_
    refine lv_iconst (v := (nI 0)) hx hb d_M_work_72 (by decide) ?_
    refine lv_iconst (v := (nI 0)) hx hb d_M_work_73 (by decide) ?_
    refine x_calli (va_runV (As := [.int (nI 0), .int (nI 0)]) (rest := [.int (nI st.ex), .ref a.aI]) ⟨hx, hb, hml, hown, ht⟩ (c_M_var l G A ws a (⟨st.th, st.ex, st.va, st.co, st.sv, st.kn, st.kc, st.S, st.Kd, st.In, st.Hw, st.Fr, st.Gn, st.R, st.L, st.T, st.O, st.B, st.W⟩ : MS) hw (show st.va < 60 by omega) 0 0) (cwV 2 ht (TW_V k_ml_M_75 k_im_M_variable k_se_M_variable k_in_M k_code_M_variable) rfl rfl rfl hv_M_variable ⟨Nat.le_of_ble_eq_true rfl, Nat.le_of_ble_eq_true rfl⟩) ⟨x_blind, va_recv hK hP rfl h11, x_pre hE hA hS hP hD⟩ rfl rfl hl.1 rfl (lv_room (Nat.le_of_ble_eq_true rfl)) d_M_work_74 ⟨Nat.le_of_ble_eq_true rfl, Nat.le_of_ble_eq_true rfl⟩) hS (fun r17 w16 H locs q15 hP hD hS => ?_)
    obtain ⟨rfl, q15⟩ := q15
    have E18 : w16 = mW G a (⟨st.th, st.ex, (st.va + 1), st.co, st.sv, st.kn, st.kc, st.S, st.Kd, st.In, (va_up st.Hw st.va 0), (va_up st.Fr st.va 0), (va_up st.Gn st.va 0), st.R, st.L, st.T, st.O, st.B, st.W⟩ : MS) := q15
    have h19 : w16[0]? = some (a.m, .inr (5, [.int (nI st.th), .ref a.aS, .ref a.aK, .ref a.aI, .int (nI st.ex), .ref a.aH, .ref a.aF, .ref a.aG, .int (nI (st.va + 1)), .ref a.aR, .int (nI st.co), .ref a.aL, .ref a.aT, .ref a.aO, .ref a.aB, .ref a.aW, .int (nI st.sv), .int (nI st.kn), .int (nI st.kc)])) := by rw [E18]; rfl
    have h20 : w16[8]? = some (a.aL, aI G 60 (rI st.L)) := by rw [E18]; rfl
    have h21 : w16[9]? = some (a.aT, aI G 60 (rI st.T)) := by rw [E18]; rfl
    have h22 : w16[3]? = some (a.aI, aI G 60 (rI st.In)) := by rw [E18]; rfl
    have hx1 : st.ex < 60 := by omega
    refine x_iast hx hb hK hP hD hS h22 st.ex rfl (by omega) (by omega) d_M_work_77 (fun H locs hP hD hS => ?_)
    have hP : va_P (xD G) CL (w16.set 3 (a.aI, aI G 60 (upd (rI st.In) st.ex (nI st.va)))) H := hP
    have hD : va_D A (w16.set 3 (a.aI, aI G 60 (upd (rI st.In) st.ex (nI st.va)))) := hD
    obtain ⟨w23, e_w23⟩ : ∃ zz : va_W, zz = w16.set 3 (a.aI, aI G 60 (upd (rI st.In) st.ex (nI st.va))) := ⟨_, rfl⟩
    rw [← e_w23] at hP hD
    have h24 : w23[3]? = some (a.aI, aI G 60 (upd (rI st.In) st.ex (nI st.va))) := by rw [e_w23]; exact w_eq h22
    have E25 : w23 = mW G a (⟨st.th, st.ex, (st.va + 1), st.co, st.sv, st.kn, st.kc, st.S, st.Kd, (va_up st.In st.ex st.va), (va_up st.Hw st.va 0), (va_up st.Fr st.va 0), (va_up st.Gn st.va 0), st.R, st.L, st.T, st.O, st.B, st.W⟩ : MS) := by rw [e_w23, E18, up_rI]; rfl
    have h26 : w23[0]? = some (a.m, .inr (5, [.int (nI st.th), .ref a.aS, .ref a.aK, .ref a.aI, .int (nI st.ex), .ref a.aH, .ref a.aF, .ref a.aG, .int (nI (st.va + 1)), .ref a.aR, .int (nI st.co), .ref a.aL, .ref a.aT, .ref a.aO, .ref a.aB, .ref a.aW, .int (nI st.sv), .int (nI st.kn), .int (nI st.kc)])) := by rw [E25]; rfl
    have h27 : w23[8]? = some (a.aL, aI G 60 (rI st.L)) := by rw [E25]; rfl
    have h28 : w23[9]? = some (a.aT, aI G 60 (rI st.T)) := by rw [E25]; rfl
    have h29 : w23[3]? = some (a.aI, aI G 60 (rI (va_up st.In st.ex st.va))) := by rw [E25]; rfl
    refine lv_aload_n hx hb d_M_work_78 rfl (lv_at hl 0 rfl) ?_
    refine va_get (D := xD G) (ci := 5) (C := R_M) (T := F_M) (N := 19) hx hb ht in_M hown hK hP 0 h26 rfl 11 (by decide) (ht _ k_fl_M_35) (fun _ h9 => h9) rfl d_M_work_79 ?_
    refine lv_aload_n hx hb d_M_work_82 rfl (lv_at hl 0 rfl) ?_
    refine va_get (D := xD G) (ci := 5) (C := R_M) (T := F_M) (N := 19) hx hb ht in_M hown hK hP 0 h26 rfl 8 (by decide) (ht _ k_fl_M_28) (fun _ h9 => h9) rfl d_M_work_83 ?_
    refine lv_iconst (v := (nI 1)) hx hb d_M_work_86 (by decide) ?_
    refine lv_isub hx hb d_M_work_87 ?_
    refine x_top (nI ((st.va + 1) - 1)) (pk_sub (by omega)) ?_
    refine x_top (nI st.va) (by rw [Nat.add_sub_cancel]) ?_
    refine x_callv (va_runS (As := [.ref a.aL, .int (nI st.va)]) (rest := []) ⟨hx, hb, hml, hown, ht⟩ (c_M_one l G A w23 8 a.aL st.L h27 st.va (by omega)) (va_cwS 2 ht (TW_S k_ml_M_83 k_st_M_one k_in_M k_code_M_one) rfl rfl rfl hv_M_one.2 ⟨Nat.le_of_ble_eq_true rfl, Nat.le_of_ble_eq_true rfl⟩) ⟨x_blind, x_pre hE hA hS hP hD⟩ rfl rfl hl.1 rfl (lv_room (Nat.le_of_ble_eq_true rfl)) d_M_work_88 ⟨Nat.le_of_ble_eq_true rfl, Nat.le_of_ble_eq_true rfl⟩) hS (fun w31 H locs q30 hP hD hS => ?_)
    have q30 : w31 = w23.set 8 (a.aL, aI G 60 (rI (ovb 60 0 st.L (unit st.va)))) := q30
    obtain ⟨u32, e_u32⟩ : ∃ zz : Nat → Nat, zz = ovb 60 0 st.L (unit st.va) := ⟨_, rfl⟩
    rw [← e_u32] at q30
    have h_u32 : ∀ j, j < 60 → u32 j = unit st.va j := fun j hj => by rw [e_u32, ovb_at hj]
    have E33 : w31 = mW G a (⟨st.th, st.ex, (st.va + 1), st.co, st.sv, st.kn, st.kc, st.S, st.Kd, (va_up st.In st.ex st.va), (va_up st.Hw st.va 0), (va_up st.Fr st.va 0), (va_up st.Gn st.va 0), st.R, u32, st.T, st.O, st.B, st.W⟩ : MS) := by rw [q30, E25]; rfl
    have h34 : w31[0]? = some (a.m, .inr (5, [.int (nI st.th), .ref a.aS, .ref a.aK, .ref a.aI, .int (nI st.ex), .ref a.aH, .ref a.aF, .ref a.aG, .int (nI (st.va + 1)), .ref a.aR, .int (nI st.co), .ref a.aL, .ref a.aT, .ref a.aO, .ref a.aB, .ref a.aW, .int (nI st.sv), .int (nI st.kn), .int (nI st.kc)])) := by rw [E33]; rfl
    have h35 : w31[8]? = some (a.aL, aI G 60 (rI u32)) := by rw [E33]; rfl
    have h36 : w31[9]? = some (a.aT, aI G 60 (rI st.T)) := by rw [E33]; rfl
    have h37 : w31[3]? = some (a.aI, aI G 60 (rI (va_up st.In st.ex st.va))) := by rw [E33]; rfl
    have e7 : wkS 1 E (V, K) x1 x2 x3 = ((V ++ [(1, zr, zr, 0)], K), unit V.length) := by simp [wkS, mkSum]
    have l1 : (V ++ [((1 : Nat), zr, zr, (0 : Nat))]).length = V.length + 1 := by simp
    have rel : MRel (⟨st.th, st.ex, (st.va + 1), st.co, st.sv, st.kn, st.kc, st.S, st.Kd, (va_up st.In st.ex st.va), (va_up st.Hw st.va 0), (va_up st.Fr st.va 0), (va_up st.Gn st.va 0), st.R, u32, st.T, st.O, st.B, st.W⟩ : MS) (V ++ [(1, zr, zr, 0)]) E K inp w wV wC := ⟨by rw [l1]; exact hM.1.mono (by omega), RV.add (y := 0) (c := 0) hM.2.1 rfl (by decide) rfl (fun q => absurd rfl q), by rw [l1]; exact RE.In (hM.2.2.1.mono (by omega)), hM.2.2.2⟩
    refine lv_goto (tgt := 275) hx hb d_M_work_91 (by decide) ?_
    exact x_vret hx hb hr hlocks hS hP hD (Nat.le_of_ble_eq_true rfl) (Nat.le_of_ble_eq_true rfl) d_M_work_275 (⟨_, E33, by rw [e7]; exact rel, by rw [e7]; exact (fun j hj => by rw [← hva]; exact h_u32 j hj), by rw [e7]; exact (fun j h1 hj => unit_0 (by rw [l1] at h1; omega)), by rw [e7]; exact (fun j _ => unit_lt _ j), rfl, fun _ => by show va_up st.In st.ex st.va E.length = V.length; rw [← hex, up_at, hva]⟩)
  · refine lv_iload_n hx hb d_M_work_0 rfl (lv_at hl 1 rfl) ?_
    refine lv_tableIn (off := 93) (tgt := 94) hx hb d_M_work_1 (by decide) (by decide) (by decide) (by decide) ?_
    obtain ⟨ja, gja, rfl⟩ := w2 (by decide)
    obtain ⟨jb, gjb, rfl⟩ := w3 (by decide) (by decide)
    have n7 : nd 2 E (nI ja) (nI jb) x3 = 0 := by simp [nd]
    rw [n7] at bK
    rw [if_neg (by decide), n7] at bV
    refine lv_aload_n hx hb d_M_work_94 rfl (lv_at hl 0 rfl) ?_
    refine lv_aload_n hx hb d_M_work_95 rfl (lv_at hl 0 rfl) ?_
    refine va_get (D := xD G) (ci := 5) (C := R_M) (T := F_M) (N := 19) hx hb ht in_M hown hK hP 0 h1 rfl 11 (by decide) (ht _ k_fl_M_35) (fun _ h9 => h9) rfl d_M_work_96 ?_
    refine lv_iload_n hx hb d_M_work_99 rfl (lv_at hl 2 rfl) ?_
    refine x_callv (va_runV (As := [.ref a.aL, .int (nI ja)]) (rest := []) ⟨hx, hb, hml, hown, ht⟩ (c_M_fetch l G A ws a (⟨st.th, st.ex, st.va, st.co, st.sv, st.kn, st.kc, st.S, st.Kd, st.In, st.Hw, st.Fr, st.Gn, st.R, st.L, st.T, st.O, st.B, st.W⟩ : MS) hw 8 a.aL st.L h2 (by decide) ja (by omega)) (cwV 2 ht (TW_V k_ml_M_100 k_im_M_fetch k_se_M_fetch k_in_M k_code_M_fetch) rfl rfl rfl hv_M_fetch ⟨Nat.le_of_ble_eq_true rfl, Nat.le_of_ble_eq_true rfl⟩) ⟨x_blind, va_recv hK hP rfl h1, x_pre hE hA hS hP hD⟩ rfl rfl hl.1 rfl (lv_room (Nat.le_of_ble_eq_true rfl)) d_M_work_100 ⟨Nat.le_of_ble_eq_true rfl, Nat.le_of_ble_eq_true rfl⟩) hS (fun w39 H locs q38 hP hD hS => ?_)
    have q38 : w39 = ws.set 8 (a.aL, aI G 60 (rI (ovb 60 0 st.L (fun j => st.S (60 * ja + j))))) := q38
    obtain ⟨u40, e_u40⟩ : ∃ zz : Nat → Nat, zz = ovb 60 0 st.L (fun j => st.S (60 * ja + j)) := ⟨_, rfl⟩
    rw [← e_u40] at q38
    have h_u40 : ∀ j, j < 60 → u40 j = sE E ja j := fun j hj => by rw [e_u40, ovb_at hj]; exact hS9 ja j gja hj
    have E41 : w39 = mW G a (⟨st.th, st.ex, st.va, st.co, st.sv, st.kn, st.kc, st.S, st.Kd, st.In, st.Hw, st.Fr, st.Gn, st.R, u40, st.T, st.O, st.B, st.W⟩ : MS) := by rw [q38, hw]; rfl
    have h42 : w39[0]? = some (a.m, .inr (5, [.int (nI st.th), .ref a.aS, .ref a.aK, .ref a.aI, .int (nI st.ex), .ref a.aH, .ref a.aF, .ref a.aG, .int (nI st.va), .ref a.aR, .int (nI st.co), .ref a.aL, .ref a.aT, .ref a.aO, .ref a.aB, .ref a.aW, .int (nI st.sv), .int (nI st.kn), .int (nI st.kc)])) := by rw [E41]; rfl
    have h43 : w39[8]? = some (a.aL, aI G 60 (rI u40)) := by rw [E41]; rfl
    have h44 : w39[9]? = some (a.aT, aI G 60 (rI st.T)) := by rw [E41]; rfl
    refine lv_aload_n hx hb d_M_work_103 rfl (lv_at hl 0 rfl) ?_
    refine lv_aload_n hx hb d_M_work_104 rfl (lv_at hl 0 rfl) ?_
    refine va_get (D := xD G) (ci := 5) (C := R_M) (T := F_M) (N := 19) hx hb ht in_M hown hK hP 0 h42 rfl 11 (by decide) (ht _ k_fl_M_35) (fun _ h9 => h9) rfl d_M_work_105 ?_
    refine lv_iload_n hx hb d_M_work_108 rfl (lv_at hl 3 rfl) ?_
    refine lv_iload_n hx hb d_M_work_109 rfl (lv_at hl 1 rfl) ?_
    refine lv_iconst (v := (nI 2)) hx hb d_M_work_110 (by decide) ?_
    refine x_ne hx hb 2 2 rfl rfl (by decide) (by decide) (tgt := 118) d_M_work_111 (by decide) (fun c45 => ?_) (fun c45 => ?_)
    · exact False.elim (by omega)
    refine lv_iconst (v := (nI 1)) hx hb d_M_work_114 (by decide) ?_
    refine lv_goto (tgt := 120) hx hb d_M_work_115 (by decide) ?_
    refine x_callv (va_runV (As := [.ref a.aL, .int (nI jb), .int (nI 1)]) (rest := []) ⟨hx, hb, hml, hown, ht⟩ (c_M_add l G A w39 a (⟨st.th, st.ex, st.va, st.co, st.sv, st.kn, st.kc, st.S, st.Kd, st.In, st.Hw, st.Fr, st.Gn, st.R, u40, st.T, st.O, st.B, st.W⟩ : MS) E41 8 a.aL u40 h43 (by decide) jb 1 (by omega) (by decide) (fun j hj => by rw [h_u40 j hj]; exact hS8 ja j gja hj) (hS6 jb gjb)) (cwV 3 ht (TW_V k_ml_M_90 k_im_M_add k_se_M_add k_in_M k_code_M_add) rfl rfl rfl hv_M_add ⟨Nat.le_of_ble_eq_true rfl, Nat.le_of_ble_eq_true rfl⟩) ⟨x_blind, va_recv hK hP rfl h42, x_pre hE hA hS hP hD⟩ rfl rfl hl.1 rfl (lv_room (Nat.le_of_ble_eq_true rfl)) d_M_work_120 ⟨Nat.le_of_ble_eq_true rfl, Nat.le_of_ble_eq_true rfl⟩) hS (fun w47 H locs q46 hP hD hS => ?_)
    have q46 : w47 = w39.set 8 (a.aL, aI G 60 (rI (ovb 60 0 u40 (fun j => (u40 j + 1 * st.S (60 * jb + j)) % 97)))) := q46
    obtain ⟨u48, e_u48⟩ : ∃ zz : Nat → Nat, zz = ovb 60 0 u40 (fun j => (u40 j + 1 * st.S (60 * jb + j)) % 97) := ⟨_, rfl⟩
    rw [← e_u48] at q46
    have h_u48 : ∀ j, j < 60 → u48 j = cmb 1 (sE E ja) 1 (sE E jb) j := fun j hj => by rw [e_u48, ovb_at hj]; show (u40 j + 1 * st.S (60 * jb + j)) % 97 = (1 * sE E ja j + 1 * sE E jb j) % 97; rw [h_u40 j hj, hS9 jb j gjb hj]; simp only [Nat.one_mul]
    have E49 : w47 = mW G a (⟨st.th, st.ex, st.va, st.co, st.sv, st.kn, st.kc, st.S, st.Kd, st.In, st.Hw, st.Fr, st.Gn, st.R, u48, st.T, st.O, st.B, st.W⟩ : MS) := by rw [q46, E41]; rfl
    have h50 : w47[0]? = some (a.m, .inr (5, [.int (nI st.th), .ref a.aS, .ref a.aK, .ref a.aI, .int (nI st.ex), .ref a.aH, .ref a.aF, .ref a.aG, .int (nI st.va), .ref a.aR, .int (nI st.co), .ref a.aL, .ref a.aT, .ref a.aO, .ref a.aB, .ref a.aW, .int (nI st.sv), .int (nI st.kn), .int (nI st.kc)])) := by rw [E49]; rfl
    have h51 : w47[8]? = some (a.aL, aI G 60 (rI u48)) := by rw [E49]; rfl
    have h52 : w47[9]? = some (a.aT, aI G 60 (rI st.T)) := by rw [E49]; rfl
    have e7 : wkS 2 E (V, K) (nI ja) (nI jb) x3 = ((V, K), cmb 1 (sE E ja) 1 (sE E jb)) := by simp [wkS, mkSum, ix_nI (show ja < 2 ^ 31 by omega), ix_nI (show jb < 2 ^ 31 by omega)]
    have eS : ∀ j, V.length ≤ j → j < 60 → cmb 1 (sE E ja) 1 (sE E jb) j = 0 := fun j h1 hj => by simp [cmb, hS7 ja j gja h1 hj, hS7 jb j gjb h1 hj]
    refine lv_goto (tgt := 275) hx hb d_M_work_123 (by decide) ?_
    exact x_vret hx hb hr hlocks hS hP hD (Nat.le_of_ble_eq_true rfl) (Nat.le_of_ble_eq_true rfl) d_M_work_275 (⟨_, E49, by rw [e7]; exact hM, by rw [e7]; exact h_u48, by rw [e7]; exact eS, by rw [e7]; exact (fun j _ => cmb_lt j), rfl, fun q => absurd q (by decide)⟩)
  · refine lv_iload_n hx hb d_M_work_0 rfl (lv_at hl 1 rfl) ?_
    refine lv_tableIn (off := 93) (tgt := 94) hx hb d_M_work_1 (by decide) (by decide) (by decide) (by decide) ?_
    obtain ⟨ja, gja, rfl⟩ := w2 (by decide)
    obtain ⟨jb, gjb, rfl⟩ := w3 (by decide) (by decide)
    have n7 : nd 3 E (nI ja) (nI jb) x3 = 0 := by simp [nd]
    rw [n7] at bK
    rw [if_neg (by decide), n7] at bV
    refine lv_aload_n hx hb d_M_work_94 rfl (lv_at hl 0 rfl) ?_
    refine lv_aload_n hx hb d_M_work_95 rfl (lv_at hl 0 rfl) ?_
    refine va_get (D := xD G) (ci := 5) (C := R_M) (T := F_M) (N := 19) hx hb ht in_M hown hK hP 0 h1 rfl 11 (by decide) (ht _ k_fl_M_35) (fun _ h9 => h9) rfl d_M_work_96 ?_
    refine lv_iload_n hx hb d_M_work_99 rfl (lv_at hl 2 rfl) ?_
    refine x_callv (va_runV (As := [.ref a.aL, .int (nI ja)]) (rest := []) ⟨hx, hb, hml, hown, ht⟩ (c_M_fetch l G A ws a (⟨st.th, st.ex, st.va, st.co, st.sv, st.kn, st.kc, st.S, st.Kd, st.In, st.Hw, st.Fr, st.Gn, st.R, st.L, st.T, st.O, st.B, st.W⟩ : MS) hw 8 a.aL st.L h2 (by decide) ja (by omega)) (cwV 2 ht (TW_V k_ml_M_100 k_im_M_fetch k_se_M_fetch k_in_M k_code_M_fetch) rfl rfl rfl hv_M_fetch ⟨Nat.le_of_ble_eq_true rfl, Nat.le_of_ble_eq_true rfl⟩) ⟨x_blind, va_recv hK hP rfl h1, x_pre hE hA hS hP hD⟩ rfl rfl hl.1 rfl (lv_room (Nat.le_of_ble_eq_true rfl)) d_M_work_100 ⟨Nat.le_of_ble_eq_true rfl, Nat.le_of_ble_eq_true rfl⟩) hS (fun w54 H locs q53 hP hD hS => ?_)
    have q53 : w54 = ws.set 8 (a.aL, aI G 60 (rI (ovb 60 0 st.L (fun j => st.S (60 * ja + j))))) := q53
    obtain ⟨u55, e_u55⟩ : ∃ zz : Nat → Nat, zz = ovb 60 0 st.L (fun j => st.S (60 * ja + j)) := ⟨_, rfl⟩
    rw [← e_u55] at q53
    have h_u55 : ∀ j, j < 60 → u55 j = sE E ja j := fun j hj => by rw [e_u55, ovb_at hj]; exact hS9 ja j gja hj
    have E56 : w54 = mW G a (⟨st.th, st.ex, st.va, st.co, st.sv, st.kn, st.kc, st.S, st.Kd, st.In, st.Hw, st.Fr, st.Gn, st.R, u55, st.T, st.O, st.B, st.W⟩ : MS) := by rw [q53, hw]; rfl
    have h57 : w54[0]? = some (a.m, .inr (5, [.int (nI st.th), .ref a.aS, .ref a.aK, .ref a.aI, .int (nI st.ex), .ref a.aH, .ref a.aF, .ref a.aG, .int (nI st.va), .ref a.aR, .int (nI st.co), .ref a.aL, .ref a.aT, .ref a.aO, .ref a.aB, .ref a.aW, .int (nI st.sv), .int (nI st.kn), .int (nI st.kc)])) := by rw [E56]; rfl
    have h58 : w54[8]? = some (a.aL, aI G 60 (rI u55)) := by rw [E56]; rfl
    have h59 : w54[9]? = some (a.aT, aI G 60 (rI st.T)) := by rw [E56]; rfl
    refine lv_aload_n hx hb d_M_work_103 rfl (lv_at hl 0 rfl) ?_
    refine lv_aload_n hx hb d_M_work_104 rfl (lv_at hl 0 rfl) ?_
    refine va_get (D := xD G) (ci := 5) (C := R_M) (T := F_M) (N := 19) hx hb ht in_M hown hK hP 0 h57 rfl 11 (by decide) (ht _ k_fl_M_35) (fun _ h9 => h9) rfl d_M_work_105 ?_
    refine lv_iload_n hx hb d_M_work_108 rfl (lv_at hl 3 rfl) ?_
    refine lv_iload_n hx hb d_M_work_109 rfl (lv_at hl 1 rfl) ?_
    refine lv_iconst (v := (nI 2)) hx hb d_M_work_110 (by decide) ?_
    refine x_ne hx hb 3 2 rfl rfl (by decide) (by decide) (tgt := 118) d_M_work_111 (by decide) (fun c60 => ?_) (fun c60 => ?_)
    rotate_left
    · exact False.elim (by omega)
    refine lv_bipush (v := (nI 96)) hx hb d_M_work_118 (by decide) ?_
    refine x_callv (va_runV (As := [.ref a.aL, .int (nI jb), .int (nI 96)]) (rest := []) ⟨hx, hb, hml, hown, ht⟩ (c_M_add l G A w54 a (⟨st.th, st.ex, st.va, st.co, st.sv, st.kn, st.kc, st.S, st.Kd, st.In, st.Hw, st.Fr, st.Gn, st.R, u55, st.T, st.O, st.B, st.W⟩ : MS) E56 8 a.aL u55 h58 (by decide) jb 96 (by omega) (by decide) (fun j hj => by rw [h_u55 j hj]; exact hS8 ja j gja hj) (hS6 jb gjb)) (cwV 3 ht (TW_V k_ml_M_90 k_im_M_add k_se_M_add k_in_M k_code_M_add) rfl rfl rfl hv_M_add ⟨Nat.le_of_ble_eq_true rfl, Nat.le_of_ble_eq_true rfl⟩) ⟨x_blind, va_recv hK hP rfl h57, x_pre hE hA hS hP hD⟩ rfl rfl hl.1 rfl (lv_room (Nat.le_of_ble_eq_true rfl)) d_M_work_120 ⟨Nat.le_of_ble_eq_true rfl, Nat.le_of_ble_eq_true rfl⟩) hS (fun w62 H locs q61 hP hD hS => ?_)
    have q61 : w62 = w54.set 8 (a.aL, aI G 60 (rI (ovb 60 0 u55 (fun j => (u55 j + 96 * st.S (60 * jb + j)) % 97)))) := q61
    obtain ⟨u63, e_u63⟩ : ∃ zz : Nat → Nat, zz = ovb 60 0 u55 (fun j => (u55 j + 96 * st.S (60 * jb + j)) % 97) := ⟨_, rfl⟩
    rw [← e_u63] at q61
    have h_u63 : ∀ j, j < 60 → u63 j = cmb 1 (sE E ja) 96 (sE E jb) j := fun j hj => by rw [e_u63, ovb_at hj]; show (u55 j + 96 * st.S (60 * jb + j)) % 97 = (1 * sE E ja j + 96 * sE E jb j) % 97; rw [h_u55 j hj, hS9 jb j gjb hj]; simp only [Nat.one_mul]
    have E64 : w62 = mW G a (⟨st.th, st.ex, st.va, st.co, st.sv, st.kn, st.kc, st.S, st.Kd, st.In, st.Hw, st.Fr, st.Gn, st.R, u63, st.T, st.O, st.B, st.W⟩ : MS) := by rw [q61, E56]; rfl
    have h65 : w62[0]? = some (a.m, .inr (5, [.int (nI st.th), .ref a.aS, .ref a.aK, .ref a.aI, .int (nI st.ex), .ref a.aH, .ref a.aF, .ref a.aG, .int (nI st.va), .ref a.aR, .int (nI st.co), .ref a.aL, .ref a.aT, .ref a.aO, .ref a.aB, .ref a.aW, .int (nI st.sv), .int (nI st.kn), .int (nI st.kc)])) := by rw [E64]; rfl
    have h66 : w62[8]? = some (a.aL, aI G 60 (rI u63)) := by rw [E64]; rfl
    have h67 : w62[9]? = some (a.aT, aI G 60 (rI st.T)) := by rw [E64]; rfl
    have e7 : wkS 3 E (V, K) (nI ja) (nI jb) x3 = ((V, K), cmb 1 (sE E ja) 96 (sE E jb)) := by simp [wkS, mkSum, ix_nI (show ja < 2 ^ 31 by omega), ix_nI (show jb < 2 ^ 31 by omega)]
    have eS : ∀ j, V.length ≤ j → j < 60 → cmb 1 (sE E ja) 96 (sE E jb) j = 0 := fun j h1 hj => by simp [cmb, hS7 ja j gja h1 hj, hS7 jb j gjb h1 hj]
    refine lv_goto (tgt := 275) hx hb d_M_work_123 (by decide) ?_
    exact x_vret hx hb hr hlocks hS hP hD (Nat.le_of_ble_eq_true rfl) (Nat.le_of_ble_eq_true rfl) d_M_work_275 (⟨_, E64, by rw [e7]; exact hM, by rw [e7]; exact h_u63, by rw [e7]; exact eS, by rw [e7]; exact (fun j _ => cmb_lt j), rfl, fun q => absurd q (by decide)⟩)
  · refine lv_iload_n hx hb d_M_work_0 rfl (lv_at hl 1 rfl) ?_
    refine lv_tableIn (off := 125) (tgt := 126) hx hb d_M_work_1 (by decide) (by decide) (by decide) (by decide) ?_
    obtain ⟨ja, gja, rfl⟩ := w2 (by decide)
    obtain ⟨jb, gjb, rfl⟩ := w3 (by decide) (by decide)
    have n7 : nd 4 E (nI ja) (nI jb) x3 = cp (sE E ja) (sE E jb) := by simp [nd, ix_nI (show ja < 2 ^ 31 by omega), ix_nI (show jb < 2 ^ 31 by omega)]
    rw [n7] at bK
    rw [if_neg (by decide), n7] at bV
    refine lv_aload_n hx hb d_M_work_126 rfl (lv_at hl 0 rfl) ?_
    refine lv_aload_n hx hb d_M_work_127 rfl (lv_at hl 0 rfl) ?_
    refine va_get (D := xD G) (ci := 5) (C := R_M) (T := F_M) (N := 19) hx hb ht in_M hown hK hP 0 h1 rfl 11 (by decide) (ht _ k_fl_M_35) (fun _ h9 => h9) rfl d_M_work_128 ?_
    refine lv_iload_n hx hb d_M_work_131 rfl (lv_at hl 2 rfl) ?_
    refine x_callv (va_runV (As := [.ref a.aL, .int (nI ja)]) (rest := []) ⟨hx, hb, hml, hown, ht⟩ (c_M_fetch l G A ws a (⟨st.th, st.ex, st.va, st.co, st.sv, st.kn, st.kc, st.S, st.Kd, st.In, st.Hw, st.Fr, st.Gn, st.R, st.L, st.T, st.O, st.B, st.W⟩ : MS) hw 8 a.aL st.L h2 (by decide) ja (by omega)) (cwV 2 ht (TW_V k_ml_M_100 k_im_M_fetch k_se_M_fetch k_in_M k_code_M_fetch) rfl rfl rfl hv_M_fetch ⟨Nat.le_of_ble_eq_true rfl, Nat.le_of_ble_eq_true rfl⟩) ⟨x_blind, va_recv hK hP rfl h1, x_pre hE hA hS hP hD⟩ rfl rfl hl.1 rfl (lv_room (Nat.le_of_ble_eq_true rfl)) d_M_work_132 ⟨Nat.le_of_ble_eq_true rfl, Nat.le_of_ble_eq_true rfl⟩) hS (fun w69 H locs q68 hP hD hS => ?_)
    have q68 : w69 = ws.set 8 (a.aL, aI G 60 (rI (ovb 60 0 st.L (fun j => st.S (60 * ja + j))))) := q68
    obtain ⟨u70, e_u70⟩ : ∃ zz : Nat → Nat, zz = ovb 60 0 st.L (fun j => st.S (60 * ja + j)) := ⟨_, rfl⟩
    rw [← e_u70] at q68
    have h_u70 : ∀ j, j < 60 → u70 j = sE E ja j := fun j hj => by rw [e_u70, ovb_at hj]; exact hS9 ja j gja hj
    have E71 : w69 = mW G a (⟨st.th, st.ex, st.va, st.co, st.sv, st.kn, st.kc, st.S, st.Kd, st.In, st.Hw, st.Fr, st.Gn, st.R, u70, st.T, st.O, st.B, st.W⟩ : MS) := by rw [q68, hw]; rfl
    have h72 : w69[0]? = some (a.m, .inr (5, [.int (nI st.th), .ref a.aS, .ref a.aK, .ref a.aI, .int (nI st.ex), .ref a.aH, .ref a.aF, .ref a.aG, .int (nI st.va), .ref a.aR, .int (nI st.co), .ref a.aL, .ref a.aT, .ref a.aO, .ref a.aB, .ref a.aW, .int (nI st.sv), .int (nI st.kn), .int (nI st.kc)])) := by rw [E71]; rfl
    have h73 : w69[8]? = some (a.aL, aI G 60 (rI u70)) := by rw [E71]; rfl
    have h74 : w69[9]? = some (a.aT, aI G 60 (rI st.T)) := by rw [E71]; rfl
    refine lv_aload_n hx hb d_M_work_135 rfl (lv_at hl 0 rfl) ?_
    refine lv_aload_n hx hb d_M_work_136 rfl (lv_at hl 0 rfl) ?_
    refine va_get (D := xD G) (ci := 5) (C := R_M) (T := F_M) (N := 19) hx hb ht in_M hown hK hP 0 h72 rfl 12 (by decide) (ht _ k_fl_M_38) (fun _ h9 => h9) rfl d_M_work_137 ?_
    refine lv_iload_n hx hb d_M_work_140 rfl (lv_at hl 3 rfl) ?_
    refine x_callv (va_runV (As := [.ref a.aT, .int (nI jb)]) (rest := []) ⟨hx, hb, hml, hown, ht⟩ (c_M_fetch l G A w69 a (⟨st.th, st.ex, st.va, st.co, st.sv, st.kn, st.kc, st.S, st.Kd, st.In, st.Hw, st.Fr, st.Gn, st.R, u70, st.T, st.O, st.B, st.W⟩ : MS) E71 9 a.aT st.T h74 (by decide) jb (by omega)) (cwV 2 ht (TW_V k_ml_M_100 k_im_M_fetch k_se_M_fetch k_in_M k_code_M_fetch) rfl rfl rfl hv_M_fetch ⟨Nat.le_of_ble_eq_true rfl, Nat.le_of_ble_eq_true rfl⟩) ⟨x_blind, va_recv hK hP rfl h72, x_pre hE hA hS hP hD⟩ rfl rfl hl.1 rfl (lv_room (Nat.le_of_ble_eq_true rfl)) d_M_work_141 ⟨Nat.le_of_ble_eq_true rfl, Nat.le_of_ble_eq_true rfl⟩) hS (fun w76 H locs q75 hP hD hS => ?_)
    have q75 : w76 = w69.set 9 (a.aT, aI G 60 (rI (ovb 60 0 st.T (fun j => st.S (60 * jb + j))))) := q75
    obtain ⟨u77, e_u77⟩ : ∃ zz : Nat → Nat, zz = ovb 60 0 st.T (fun j => st.S (60 * jb + j)) := ⟨_, rfl⟩
    rw [← e_u77] at q75
    have h_u77 : ∀ j, j < 60 → u77 j = sE E jb j := fun j hj => by rw [e_u77, ovb_at hj]; exact hS9 jb j gjb hj
    have E78 : w76 = mW G a (⟨st.th, st.ex, st.va, st.co, st.sv, st.kn, st.kc, st.S, st.Kd, st.In, st.Hw, st.Fr, st.Gn, st.R, u70, u77, st.O, st.B, st.W⟩ : MS) := by rw [q75, E71]; rfl
    have h79 : w76[0]? = some (a.m, .inr (5, [.int (nI st.th), .ref a.aS, .ref a.aK, .ref a.aI, .int (nI st.ex), .ref a.aH, .ref a.aF, .ref a.aG, .int (nI st.va), .ref a.aR, .int (nI st.co), .ref a.aL, .ref a.aT, .ref a.aO, .ref a.aB, .ref a.aW, .int (nI st.sv), .int (nI st.kn), .int (nI st.kc)])) := by rw [E78]; rfl
    have h80 : w76[8]? = some (a.aL, aI G 60 (rI u70)) := by rw [E78]; rfl
    have h81 : w76[9]? = some (a.aT, aI G 60 (rI u77)) := by rw [E78]; rfl
    refine lv_aload_n hx hb d_M_work_144 rfl (lv_at hl 0 rfl) ?_
    refine x_callv (va_runV (As := []) (rest := []) ⟨hx, hb, hml, hown, ht⟩ (c_M_mul l G A w76 a (⟨st.th, st.ex, st.va, st.co, st.sv, st.kn, st.kc, st.S, st.Kd, st.In, st.Hw, st.Fr, st.Gn, st.R, u70, u77, st.O, st.B, st.W⟩ : MS) E78 V E K inp w wV wC hM (sE E ja) (sE E jb) h_u70 h_u77 (fun j hj => hS8 ja j gja hj) (fun j hj => hS8 jb j gjb hj) (fun j h1 hj => hS7 ja j gja h1 hj) (fun j h1 hj => hS7 jb j gjb h1 hj) bV bK) (cwV 0 ht (TW_V k_ml_M_103 k_im_M_multiply k_se_M_multiply k_in_M k_code_M_multiply) rfl rfl rfl hv_M_multiply ⟨Nat.le_of_ble_eq_true rfl, Nat.le_of_ble_eq_true rfl⟩) ⟨x_blind, va_recv hK hP rfl h79, x_pre hE hA hS hP hD⟩ rfl rfl hl.1 rfl (lv_room (Nat.le_of_ble_eq_true rfl)) d_M_work_145 ⟨Nat.le_of_ble_eq_true rfl, Nat.le_of_ble_eq_true rfl⟩) hS (fun w83 H locs q82 hP hD hS => ?_)
    obtain ⟨st1, E1, rel1, L1, sup1, th1⟩ := q82
    have e7 : wkS 4 E (V, K) (nI ja) (nI jb) x3 = prodS (V, K) (sE E ja) (sE E jb) := by simp [wkS, mkSum, ix_nI (show ja < 2 ^ 31 by omega), ix_nI (show jb < 2 ^ 31 by omega)]
    refine lv_goto (tgt := 275) hx hb d_M_work_148 (by decide) ?_
    exact x_vret hx hb hr hlocks hS hP hD (Nat.le_of_ble_eq_true rfl) (Nat.le_of_ble_eq_true rfl) d_M_work_275 (⟨_, E1, by rw [e7]; exact rel1, by rw [e7]; exact L1, by rw [e7]; exact sup1, by rw [e7]; exact prodS_lt _ _ _, th1, fun q => absurd q (by decide)⟩)
  · refine lv_iload_n hx hb d_M_work_0 rfl (lv_at hl 1 rfl) ?_
    refine lv_tableIn (off := 150) (tgt := 151) hx hb d_M_work_1 (by decide) (by decide) (by decide) (by decide) ?_
    obtain ⟨ja, gja, rfl⟩ := w2 (by decide)
    obtain ⟨jb, gjb, rfl⟩ := w3 (by decide) (by decide)
    have n7 : nd 5 E (nI ja) (nI jb) x3 = 2 := by simp [nd]
    rw [n7] at bK
    rw [if_neg (by decide), n7] at bV
    refine lv_aload_n hx hb d_M_work_151 rfl (lv_at hl 0 rfl) ?_
    refine lv_iload_n hx hb d_M_work_152 rfl (lv_at hl 2 rfl) ?_
    refine lv_iload_n hx hb d_M_work_153 rfl (lv_at hl 3 rfl) ?_
    refine x_callv (va_runV (As := [.int (nI ja), .int (nI jb)]) (rest := []) ⟨hx, hb, hml, hown, ht⟩ (c_M_share l G A ws a st hw V E K inp w wV wC hM ja jb gja gjb (by omega) bV bK) (cwV 2 ht (TW_V k_ml_M_106 k_im_M_share k_se_M_share k_in_M k_code_M_share) rfl rfl rfl hv_M_share ⟨Nat.le_of_ble_eq_true rfl, Nat.le_of_ble_eq_true rfl⟩) ⟨x_blind, va_recv hK hP rfl h1, x_pre hE hA hS hP hD⟩ rfl rfl hl.1 rfl (lv_room (Nat.le_of_ble_eq_true rfl)) d_M_work_154 ⟨Nat.le_of_ble_eq_true rfl, Nat.le_of_ble_eq_true rfl⟩) hS (fun w85 H locs q84 hP hD hS => ?_)
    obtain ⟨st1, E1, rel1, L1, sup1, th1⟩ := q84
    have e7 : wkS 5 E (V, K) (nI ja) (nI jb) x3 = shareS (V, K) (sE E ja) (sE E jb) := by simp [wkS, mkSum, ix_nI (show ja < 2 ^ 31 by omega), ix_nI (show jb < 2 ^ 31 by omega)]
    refine lv_goto (tgt := 275) hx hb d_M_work_157 (by decide) ?_
    exact x_vret hx hb hr hlocks hS hP hD (Nat.le_of_ble_eq_true rfl) (Nat.le_of_ble_eq_true rfl) d_M_work_275 (⟨_, E1, by rw [e7]; exact rel1, by rw [e7]; exact L1, by rw [e7]; exact sup1, by rw [e7]; exact (fun j _ => unit_lt _ j), th1, fun q => absurd q (by decide)⟩)
  · refine lv_iload_n hx hb d_M_work_0 rfl (lv_at hl 1 rfl) ?_
    refine lv_tableIn (off := 159) (tgt := 160) hx hb d_M_work_1 (by decide) (by decide) (by decide) (by decide) ?_
    obtain ⟨ja, gja, rfl⟩ := w2 (by decide)
    obtain ⟨jb, gjb, rfl⟩ := w3 (by decide) (by decide)
    have n7 : nd 6 E (nI ja) (nI jb) x3 = 2 := by simp [nd]
    rw [n7] at bK
    rw [if_neg (by decide), n7] at bV
    refine lv_aload_n hx hb d_M_work_160 rfl (lv_at hl 0 rfl) ?_
    refine lv_iload_n hx hb d_M_work_161 rfl (lv_at hl 2 rfl) ?_
    refine lv_iload_n hx hb d_M_work_162 rfl (lv_at hl 3 rfl) ?_
    refine x_callv (va_runV (As := [.int (nI ja), .int (nI jb)]) (rest := []) ⟨hx, hb, hml, hown, ht⟩ (c_M_same l G A ws a st hw V E K inp w wV wC hM ja jb gja gjb (by omega) bV bK) (cwV 2 ht (TW_V k_ml_M_110 k_im_M_same k_se_M_same k_in_M k_code_M_same) rfl rfl rfl hv_M_same ⟨Nat.le_of_ble_eq_true rfl, Nat.le_of_ble_eq_true rfl⟩) ⟨x_blind, va_recv hK hP rfl h1, x_pre hE hA hS hP hD⟩ rfl rfl hl.1 rfl (lv_room (Nat.le_of_ble_eq_true rfl)) d_M_work_163 ⟨Nat.le_of_ble_eq_true rfl, Nat.le_of_ble_eq_true rfl⟩) hS (fun w87 H locs q86 hP hD hS => ?_)
    obtain ⟨st1, E1, rel1, L1, sup1, th1⟩ := q86
    have e7 : wkS 6 E (V, K) (nI ja) (nI jb) x3 = sameS (V, K) (cmb 1 (sE E ja) 96 (sE E jb)) := by simp [wkS, mkSum, ix_nI (show ja < 2 ^ 31 by omega), ix_nI (show jb < 2 ^ 31 by omega)]
    refine lv_goto (tgt := 275) hx hb d_M_work_166 (by decide) ?_
    exact x_vret hx hb hr hlocks hS hP hD (Nat.le_of_ble_eq_true rfl) (Nat.le_of_ble_eq_true rfl) d_M_work_275 (⟨_, E1, by rw [e7]; exact rel1, by rw [e7]; exact L1, by rw [e7]; exact sup1, by rw [e7]; exact (fun j _ => unit_lt _ j), th1, fun q => absurd q (by decide)⟩)
  · refine lv_iload_n hx hb d_M_work_0 rfl (lv_at hl 1 rfl) ?_
    refine lv_tableIn (off := 168) (tgt := 169) hx hb d_M_work_1 (by decide) (by decide) (by decide) (by decide) ?_
    obtain ⟨ja, gja, rfl⟩ := w2 (by decide)
    obtain ⟨jb, gjb, rfl⟩ := w3 (by decide) (by decide)
    obtain ⟨jc, gjc, rfl⟩ := w4 rfl
    have n7 : nd 7 E (nI ja) (nI jb) (nI jc) = cp (sE E jc) (cmb 1 (sE E ja) 96 (sE E jb)) := by simp [nd, ix_nI (show ja < 2 ^ 31 by omega), ix_nI (show jb < 2 ^ 31 by omega), ix_nI (show jc < 2 ^ 31 by omega)]
    rw [n7] at bK
    rw [if_neg (by decide), n7] at bV
    refine lv_aload_n hx hb d_M_work_169 rfl (lv_at hl 0 rfl) ?_
    refine lv_aload_n hx hb d_M_work_170 rfl (lv_at hl 0 rfl) ?_
    refine va_get (D := xD G) (ci := 5) (C := R_M) (T := F_M) (N := 19) hx hb ht in_M hown hK hP 0 h1 rfl 11 (by decide) (ht _ k_fl_M_35) (fun _ h9 => h9) rfl d_M_work_171 ?_
    refine lv_iload hx hb d_M_work_174 (lv_at hl 4 rfl) ?_
    refine x_callv (va_runV (As := [.ref a.aL, .int (nI jc)]) (rest := []) ⟨hx, hb, hml, hown, ht⟩ (c_M_fetch l G A ws a (⟨st.th, st.ex, st.va, st.co, st.sv, st.kn, st.kc, st.S, st.Kd, st.In, st.Hw, st.Fr, st.Gn, st.R, st.L, st.T, st.O, st.B, st.W⟩ : MS) hw 8 a.aL st.L h2 (by decide) jc (by omega)) (cwV 2 ht (TW_V k_ml_M_100 k_im_M_fetch k_se_M_fetch k_in_M k_code_M_fetch) rfl rfl rfl hv_M_fetch ⟨Nat.le_of_ble_eq_true rfl, Nat.le_of_ble_eq_true rfl⟩) ⟨x_blind, va_recv hK hP rfl h1, x_pre hE hA hS hP hD⟩ rfl rfl hl.1 rfl (lv_room (Nat.le_of_ble_eq_true rfl)) d_M_work_176 ⟨Nat.le_of_ble_eq_true rfl, Nat.le_of_ble_eq_true rfl⟩) hS (fun w89 H locs q88 hP hD hS => ?_)
    have q88 : w89 = ws.set 8 (a.aL, aI G 60 (rI (ovb 60 0 st.L (fun j => st.S (60 * jc + j))))) := q88
    obtain ⟨u90, e_u90⟩ : ∃ zz : Nat → Nat, zz = ovb 60 0 st.L (fun j => st.S (60 * jc + j)) := ⟨_, rfl⟩
    rw [← e_u90] at q88
    have h_u90 : ∀ j, j < 60 → u90 j = sE E jc j := fun j hj => by rw [e_u90, ovb_at hj]; exact hS9 jc j gjc hj
    have E91 : w89 = mW G a (⟨st.th, st.ex, st.va, st.co, st.sv, st.kn, st.kc, st.S, st.Kd, st.In, st.Hw, st.Fr, st.Gn, st.R, u90, st.T, st.O, st.B, st.W⟩ : MS) := by rw [q88, hw]; rfl
    have h92 : w89[0]? = some (a.m, .inr (5, [.int (nI st.th), .ref a.aS, .ref a.aK, .ref a.aI, .int (nI st.ex), .ref a.aH, .ref a.aF, .ref a.aG, .int (nI st.va), .ref a.aR, .int (nI st.co), .ref a.aL, .ref a.aT, .ref a.aO, .ref a.aB, .ref a.aW, .int (nI st.sv), .int (nI st.kn), .int (nI st.kc)])) := by rw [E91]; rfl
    have h93 : w89[8]? = some (a.aL, aI G 60 (rI u90)) := by rw [E91]; rfl
    have h94 : w89[9]? = some (a.aT, aI G 60 (rI st.T)) := by rw [E91]; rfl
    refine lv_aload_n hx hb d_M_work_179 rfl (lv_at hl 0 rfl) ?_
    refine lv_aload_n hx hb d_M_work_180 rfl (lv_at hl 0 rfl) ?_
    refine va_get (D := xD G) (ci := 5) (C := R_M) (T := F_M) (N := 19) hx hb ht in_M hown hK hP 0 h92 rfl 12 (by decide) (ht _ k_fl_M_38) (fun _ h9 => h9) rfl d_M_work_181 ?_
    refine lv_iload_n hx hb d_M_work_184 rfl (lv_at hl 2 rfl) ?_
    refine x_callv (va_runV (As := [.ref a.aT, .int (nI ja)]) (rest := []) ⟨hx, hb, hml, hown, ht⟩ (c_M_fetch l G A w89 a (⟨st.th, st.ex, st.va, st.co, st.sv, st.kn, st.kc, st.S, st.Kd, st.In, st.Hw, st.Fr, st.Gn, st.R, u90, st.T, st.O, st.B, st.W⟩ : MS) E91 9 a.aT st.T h94 (by decide) ja (by omega)) (cwV 2 ht (TW_V k_ml_M_100 k_im_M_fetch k_se_M_fetch k_in_M k_code_M_fetch) rfl rfl rfl hv_M_fetch ⟨Nat.le_of_ble_eq_true rfl, Nat.le_of_ble_eq_true rfl⟩) ⟨x_blind, va_recv hK hP rfl h92, x_pre hE hA hS hP hD⟩ rfl rfl hl.1 rfl (lv_room (Nat.le_of_ble_eq_true rfl)) d_M_work_185 ⟨Nat.le_of_ble_eq_true rfl, Nat.le_of_ble_eq_true rfl⟩) hS (fun w96 H locs q95 hP hD hS => ?_)
    have q95 : w96 = w89.set 9 (a.aT, aI G 60 (rI (ovb 60 0 st.T (fun j => st.S (60 * ja + j))))) := q95
    obtain ⟨u97, e_u97⟩ : ∃ zz : Nat → Nat, zz = ovb 60 0 st.T (fun j => st.S (60 * ja + j)) := ⟨_, rfl⟩
    rw [← e_u97] at q95
    have h_u97 : ∀ j, j < 60 → u97 j = sE E ja j := fun j hj => by rw [e_u97, ovb_at hj]; exact hS9 ja j gja hj
    have E98 : w96 = mW G a (⟨st.th, st.ex, st.va, st.co, st.sv, st.kn, st.kc, st.S, st.Kd, st.In, st.Hw, st.Fr, st.Gn, st.R, u90, u97, st.O, st.B, st.W⟩ : MS) := by rw [q95, E91]; rfl
    have h99 : w96[0]? = some (a.m, .inr (5, [.int (nI st.th), .ref a.aS, .ref a.aK, .ref a.aI, .int (nI st.ex), .ref a.aH, .ref a.aF, .ref a.aG, .int (nI st.va), .ref a.aR, .int (nI st.co), .ref a.aL, .ref a.aT, .ref a.aO, .ref a.aB, .ref a.aW, .int (nI st.sv), .int (nI st.kn), .int (nI st.kc)])) := by rw [E98]; rfl
    have h100 : w96[8]? = some (a.aL, aI G 60 (rI u90)) := by rw [E98]; rfl
    have h101 : w96[9]? = some (a.aT, aI G 60 (rI u97)) := by rw [E98]; rfl
    refine lv_aload_n hx hb d_M_work_188 rfl (lv_at hl 0 rfl) ?_
    refine lv_aload_n hx hb d_M_work_189 rfl (lv_at hl 0 rfl) ?_
    refine va_get (D := xD G) (ci := 5) (C := R_M) (T := F_M) (N := 19) hx hb ht in_M hown hK hP 0 h99 rfl 12 (by decide) (ht _ k_fl_M_38) (fun _ h9 => h9) rfl d_M_work_190 ?_
    refine lv_iload_n hx hb d_M_work_193 rfl (lv_at hl 3 rfl) ?_
    refine lv_bipush (v := (nI 96)) hx hb d_M_work_194 (by decide) ?_
    refine x_callv (va_runV (As := [.ref a.aT, .int (nI jb), .int (nI 96)]) (rest := []) ⟨hx, hb, hml, hown, ht⟩ (c_M_add l G A w96 a (⟨st.th, st.ex, st.va, st.co, st.sv, st.kn, st.kc, st.S, st.Kd, st.In, st.Hw, st.Fr, st.Gn, st.R, u90, u97, st.O, st.B, st.W⟩ : MS) E98 9 a.aT u97 h101 (by decide) jb 96 (by omega) (by decide) (fun j hj => by rw [h_u97 j hj]; exact hS8 ja j gja hj) (hS6 jb gjb)) (cwV 3 ht (TW_V k_ml_M_90 k_im_M_add k_se_M_add k_in_M k_code_M_add) rfl rfl rfl hv_M_add ⟨Nat.le_of_ble_eq_true rfl, Nat.le_of_ble_eq_true rfl⟩) ⟨x_blind, va_recv hK hP rfl h99, x_pre hE hA hS hP hD⟩ rfl rfl hl.1 rfl (lv_room (Nat.le_of_ble_eq_true rfl)) d_M_work_196 ⟨Nat.le_of_ble_eq_true rfl, Nat.le_of_ble_eq_true rfl⟩) hS (fun w103 H locs q102 hP hD hS => ?_)
    have q102 : w103 = w96.set 9 (a.aT, aI G 60 (rI (ovb 60 0 u97 (fun j => (u97 j + 96 * st.S (60 * jb + j)) % 97)))) := q102
    obtain ⟨u104, e_u104⟩ : ∃ zz : Nat → Nat, zz = ovb 60 0 u97 (fun j => (u97 j + 96 * st.S (60 * jb + j)) % 97) := ⟨_, rfl⟩
    rw [← e_u104] at q102
    have h_u104 : ∀ j, j < 60 → u104 j = cmb 1 (sE E ja) 96 (sE E jb) j := fun j hj => by rw [e_u104, ovb_at hj]; show (u97 j + 96 * st.S (60 * jb + j)) % 97 = (1 * sE E ja j + 96 * sE E jb j) % 97; rw [h_u97 j hj, hS9 jb j gjb hj]; simp only [Nat.one_mul]
    have E105 : w103 = mW G a (⟨st.th, st.ex, st.va, st.co, st.sv, st.kn, st.kc, st.S, st.Kd, st.In, st.Hw, st.Fr, st.Gn, st.R, u90, u104, st.O, st.B, st.W⟩ : MS) := by rw [q102, E98]; rfl
    have h106 : w103[0]? = some (a.m, .inr (5, [.int (nI st.th), .ref a.aS, .ref a.aK, .ref a.aI, .int (nI st.ex), .ref a.aH, .ref a.aF, .ref a.aG, .int (nI st.va), .ref a.aR, .int (nI st.co), .ref a.aL, .ref a.aT, .ref a.aO, .ref a.aB, .ref a.aW, .int (nI st.sv), .int (nI st.kn), .int (nI st.kc)])) := by rw [E105]; rfl
    have h107 : w103[8]? = some (a.aL, aI G 60 (rI u90)) := by rw [E105]; rfl
    have h108 : w103[9]? = some (a.aT, aI G 60 (rI u104)) := by rw [E105]; rfl
    refine lv_aload_n hx hb d_M_work_199 rfl (lv_at hl 0 rfl) ?_
    have sD : ∀ j, V.length ≤ j → j < 60 → cmb 1 (sE E ja) 96 (sE E jb) j = 0 := fun j h1 hj => by simp [cmb, hS7 ja j gja h1 hj, hS7 jb j gjb h1 hj]
    refine x_callv (va_runV (As := []) (rest := []) ⟨hx, hb, hml, hown, ht⟩ (c_M_mul l G A w103 a (⟨st.th, st.ex, st.va, st.co, st.sv, st.kn, st.kc, st.S, st.Kd, st.In, st.Hw, st.Fr, st.Gn, st.R, u90, u104, st.O, st.B, st.W⟩ : MS) E105 V E K inp w wV wC hM (sE E jc) (cmb 1 (sE E ja) 96 (sE E jb)) h_u90 h_u104 (fun j hj => hS8 jc j gjc hj) (fun j _ => cmb_lt j) (fun j h1 hj => hS7 jc j gjc h1 hj) sD bV bK) (cwV 0 ht (TW_V k_ml_M_103 k_im_M_multiply k_se_M_multiply k_in_M k_code_M_multiply) rfl rfl rfl hv_M_multiply ⟨Nat.le_of_ble_eq_true rfl, Nat.le_of_ble_eq_true rfl⟩) ⟨x_blind, va_recv hK hP rfl h106, x_pre hE hA hS hP hD⟩ rfl rfl hl.1 rfl (lv_room (Nat.le_of_ble_eq_true rfl)) d_M_work_200 ⟨Nat.le_of_ble_eq_true rfl, Nat.le_of_ble_eq_true rfl⟩) hS (fun w110 H locs q109 hP hD hS => ?_)
    obtain ⟨st1, E1, rel1, L1, sup1, th1⟩ := q109
    have hS1 : ∀ j, j < 60 → st1.S (60 * jb + j) = sE E jb j := fun j hj => (rel1.2.2.1.2.1 jb j gjb hj).1
    have h111 : w110[0]? = some (a.m, .inr (5, [.int (nI st1.th), .ref a.aS, .ref a.aK, .ref a.aI, .int (nI st1.ex), .ref a.aH, .ref a.aF, .ref a.aG, .int (nI st1.va), .ref a.aR, .int (nI st1.co), .ref a.aL, .ref a.aT, .ref a.aO, .ref a.aB, .ref a.aW, .int (nI st1.sv), .int (nI st1.kn), .int (nI st1.kc)])) := by rw [E1]; rfl
    have h112 : w110[8]? = some (a.aL, aI G 60 (rI st1.L)) := by rw [E1]; rfl
    refine lv_aload_n hx hb d_M_work_203 rfl (lv_at hl 0 rfl) ?_
    refine lv_aload_n hx hb d_M_work_204 rfl (lv_at hl 0 rfl) ?_
    refine va_get (D := xD G) (ci := 5) (C := R_M) (T := F_M) (N := 19) hx hb ht in_M hown hK hP 0 h111 rfl 11 (by decide) (ht _ k_fl_M_35) (fun _ h9 => h9) rfl d_M_work_205 ?_
    refine lv_iload_n hx hb d_M_work_208 rfl (lv_at hl 3 rfl) ?_
    refine lv_iconst (v := (nI 1)) hx hb d_M_work_209 (by decide) ?_
    refine x_callv (va_runV (As := [.ref a.aL, .int (nI jb), .int (nI 1)]) (rest := []) ⟨hx, hb, hml, hown, ht⟩ (c_M_add l G A w110 a (⟨st1.th, st1.ex, st1.va, st1.co, st1.sv, st1.kn, st1.kc, st1.S, st1.Kd, st1.In, st1.Hw, st1.Fr, st1.Gn, st1.R, st1.L, st1.T, st1.O, st1.B, st1.W⟩ : MS) E1 8 a.aL st1.L h112 (by decide) jb 1 (by omega) (by decide) (fun j hj => by rw [L1 j hj]; exact prodS_lt _ _ _ j hj) (fun j hj => by rw [hS1 j hj]; exact hS8 jb j gjb hj)) (cwV 3 ht (TW_V k_ml_M_90 k_im_M_add k_se_M_add k_in_M k_code_M_add) rfl rfl rfl hv_M_add ⟨Nat.le_of_ble_eq_true rfl, Nat.le_of_ble_eq_true rfl⟩) ⟨x_blind, va_recv hK hP rfl h111, x_pre hE hA hS hP hD⟩ rfl rfl hl.1 rfl (lv_room (Nat.le_of_ble_eq_true rfl)) d_M_work_210 ⟨Nat.le_of_ble_eq_true rfl, Nat.le_of_ble_eq_true rfl⟩) hS (fun w114 H locs q113 hP hD hS => ?_)
    have q113 : w114 = w110.set 8 (a.aL, aI G 60 (rI (ovb 60 0 st1.L (fun j => (st1.L j + 1 * st1.S (60 * jb + j)) % 97)))) := q113
    obtain ⟨u115, e_u115⟩ : ∃ zz : Nat → Nat, zz = ovb 60 0 st1.L (fun j => (st1.L j + 1 * st1.S (60 * jb + j)) % 97) := ⟨_, rfl⟩
    rw [← e_u115] at q113
    have h_u115 : ∀ j, j < 60 → u115 j = cmb 1 (prodS (V, K) (sE E jc) (cmb 1 (sE E ja) 96 (sE E jb))).2 1 (sE E jb) j := fun j hj => by rw [e_u115, ovb_at hj]; show (st1.L j + 1 * st1.S (60 * jb + j)) % 97 = (1 * (prodS (V, K) (sE E jc) (cmb 1 (sE E ja) 96 (sE E jb))).2 j + 1 * sE E jb j) % 97; rw [L1 j hj, hS1 j hj]; simp only [Nat.one_mul]
    have E116 : w114 = mW G a (⟨st1.th, st1.ex, st1.va, st1.co, st1.sv, st1.kn, st1.kc, st1.S, st1.Kd, st1.In, st1.Hw, st1.Fr, st1.Gn, st1.R, u115, st1.T, st1.O, st1.B, st1.W⟩ : MS) := by rw [q113, E1]; rfl
    have h117 : w114[0]? = some (a.m, .inr (5, [.int (nI st1.th), .ref a.aS, .ref a.aK, .ref a.aI, .int (nI st1.ex), .ref a.aH, .ref a.aF, .ref a.aG, .int (nI st1.va), .ref a.aR, .int (nI st1.co), .ref a.aL, .ref a.aT, .ref a.aO, .ref a.aB, .ref a.aW, .int (nI st1.sv), .int (nI st1.kn), .int (nI st1.kc)])) := by rw [E116]; rfl
    have h118 : w114[8]? = some (a.aL, aI G 60 (rI u115)) := by rw [E116]; rfl
    have e7 : wkS 7 E (V, K) (nI ja) (nI jb) (nI jc) = ((prodS (V, K) (sE E jc) (cmb 1 (sE E ja) 96 (sE E jb))).1, cmb 1 (prodS (V, K) (sE E jc) (cmb 1 (sE E ja) 96 (sE E jb))).2 1 (sE E jb)) := by simp [wkS, mkSum, ix_nI (show ja < 2 ^ 31 by omega), ix_nI (show jb < 2 ^ 31 by omega), ix_nI (show jc < 2 ^ 31 by omega)]
    have pl := (prodS_len (V, K) (sE E jc) (cmb 1 (sE E ja) 96 (sE E jb))).1
    have pl : (prodS (V, K) (sE E jc) (cmb 1 (sE E ja) 96 (sE E jb))).1.1.length = V.length + _ := pl
    have eS : ∀ j, (prodS (V, K) (sE E jc) (cmb 1 (sE E ja) 96 (sE E jb))).1.1.length ≤ j → j < 60 → cmb 1 (prodS (V, K) (sE E jc) (cmb 1 (sE E ja) 96 (sE E jb))).2 1 (sE E jb) j = 0 := fun j h2 hj => by simp [cmb, sup1 j h2 hj, hS7 jb j gjb (by omega) hj]
    refine lv_goto (tgt := 275) hx hb d_M_work_213 (by decide) ?_
    exact x_vret hx hb hr hlocks hS hP hD (Nat.le_of_ble_eq_true rfl) (Nat.le_of_ble_eq_true rfl) d_M_work_275 (⟨_, E116, by rw [e7]; exact rel1, by rw [e7]; exact h_u115, by rw [e7]; exact eS, by rw [e7]; exact (fun j _ => cmb_lt j), th1, fun q => absurd q (by decide)⟩)
  · refine lv_iload_n hx hb d_M_work_0 rfl (lv_at hl 1 rfl) ?_
    refine lv_tableIn (off := 215) (tgt := 216) hx hb d_M_work_1 (by decide) (by decide) (by decide) (by decide) ?_
    obtain ⟨ja, gja, rfl⟩ := w2 (by decide)
    have n7 : nd 8 E (nI ja) x2 x3 = 0 := by simp [nd]
    rw [n7] at bK
    rw [if_neg (by decide), n7] at bV
    refine lv_aload_n hx hb d_M_work_216 rfl (lv_at hl 0 rfl) ?_
    refine va_get (D := xD G) (ci := 5) (C := R_M) (T := F_M) (N := 19) hx hb ht in_M hown hK hP 0 h1 rfl 11 (by decide) (ht _ k_fl_M_35) (fun _ h9 => h9) rfl d_M_work_217 ?_
    refine lv_iconst (v := (nI 1)) hx hb d_M_work_220 (by decide) ?_
    refine x_callv (va_runS (As := [.ref a.aL, .int (nI 1)]) (rest := []) ⟨hx, hb, hml, hown, ht⟩ (c_M_number l G A ws 8 a.aL st.L h2 (nI 1)) (va_cwS 2 ht (TW_S k_ml_M_64 k_st_M_number k_in_M k_code_M_number) rfl rfl rfl hv_M_number.2 ⟨Nat.le_of_ble_eq_true rfl, Nat.le_of_ble_eq_true rfl⟩) ⟨x_blind, x_pre hE hA hS hP hD⟩ rfl rfl hl.1 rfl (lv_room (Nat.le_of_ble_eq_true rfl)) d_M_work_221 ⟨Nat.le_of_ble_eq_true rfl, Nat.le_of_ble_eq_true rfl⟩) hS (fun w120 H locs q119 hP hD hS => ?_)
    have q119 : w120 = ws.set 8 (a.aL, aI G 60 (rI (ovb 60 0 st.L (nmb (rm (nI 1)))))) := q119
    obtain ⟨u121, e_u121⟩ : ∃ zz : Nat → Nat, zz = ovb 60 0 st.L (nmb (rm (nI 1))) := ⟨_, rfl⟩
    rw [← e_u121] at q119
    have h_u121 : ∀ j, j < 60 → u121 j = unit 0 j := fun j hj => by rw [e_u121, ovb_at hj]; exact nmb1 j
    have E122 : w120 = mW G a (⟨st.th, st.ex, st.va, st.co, st.sv, st.kn, st.kc, st.S, st.Kd, st.In, st.Hw, st.Fr, st.Gn, st.R, u121, st.T, st.O, st.B, st.W⟩ : MS) := by rw [q119, hw]; rfl
    have h123 : w120[0]? = some (a.m, .inr (5, [.int (nI st.th), .ref a.aS, .ref a.aK, .ref a.aI, .int (nI st.ex), .ref a.aH, .ref a.aF, .ref a.aG, .int (nI st.va), .ref a.aR, .int (nI st.co), .ref a.aL, .ref a.aT, .ref a.aO, .ref a.aB, .ref a.aW, .int (nI st.sv), .int (nI st.kn), .int (nI st.kc)])) := by rw [E122]; rfl
    have h124 : w120[8]? = some (a.aL, aI G 60 (rI u121)) := by rw [E122]; rfl
    have h125 : w120[9]? = some (a.aT, aI G 60 (rI st.T)) := by rw [E122]; rfl
    refine lv_aload_n hx hb d_M_work_224 rfl (lv_at hl 0 rfl) ?_
    refine lv_aload_n hx hb d_M_work_225 rfl (lv_at hl 0 rfl) ?_
    refine va_get (D := xD G) (ci := 5) (C := R_M) (T := F_M) (N := 19) hx hb ht in_M hown hK hP 0 h123 rfl 11 (by decide) (ht _ k_fl_M_35) (fun _ h9 => h9) rfl d_M_work_226 ?_
    refine lv_iload_n hx hb d_M_work_229 rfl (lv_at hl 2 rfl) ?_
    refine lv_bipush (v := (nI 96)) hx hb d_M_work_230 (by decide) ?_
    refine x_callv (va_runV (As := [.ref a.aL, .int (nI ja), .int (nI 96)]) (rest := []) ⟨hx, hb, hml, hown, ht⟩ (c_M_add l G A w120 a (⟨st.th, st.ex, st.va, st.co, st.sv, st.kn, st.kc, st.S, st.Kd, st.In, st.Hw, st.Fr, st.Gn, st.R, u121, st.T, st.O, st.B, st.W⟩ : MS) E122 8 a.aL u121 h124 (by decide) ja 96 (by omega) (by decide) (fun j hj => by rw [h_u121 j hj]; exact unit_lt _ _) (hS6 ja gja)) (cwV 3 ht (TW_V k_ml_M_90 k_im_M_add k_se_M_add k_in_M k_code_M_add) rfl rfl rfl hv_M_add ⟨Nat.le_of_ble_eq_true rfl, Nat.le_of_ble_eq_true rfl⟩) ⟨x_blind, va_recv hK hP rfl h123, x_pre hE hA hS hP hD⟩ rfl rfl hl.1 rfl (lv_room (Nat.le_of_ble_eq_true rfl)) d_M_work_232 ⟨Nat.le_of_ble_eq_true rfl, Nat.le_of_ble_eq_true rfl⟩) hS (fun w127 H locs q126 hP hD hS => ?_)
    have q126 : w127 = w120.set 8 (a.aL, aI G 60 (rI (ovb 60 0 u121 (fun j => (u121 j + 96 * st.S (60 * ja + j)) % 97)))) := q126
    obtain ⟨u128, e_u128⟩ : ∃ zz : Nat → Nat, zz = ovb 60 0 u121 (fun j => (u121 j + 96 * st.S (60 * ja + j)) % 97) := ⟨_, rfl⟩
    rw [← e_u128] at q126
    have h_u128 : ∀ j, j < 60 → u128 j = cmb 1 (unit 0) 96 (sE E ja) j := fun j hj => by rw [e_u128, ovb_at hj]; show (u121 j + 96 * st.S (60 * ja + j)) % 97 = (1 * unit 0 j + 96 * sE E ja j) % 97; rw [h_u121 j hj, hS9 ja j gja hj]; simp only [Nat.one_mul]
    have E129 : w127 = mW G a (⟨st.th, st.ex, st.va, st.co, st.sv, st.kn, st.kc, st.S, st.Kd, st.In, st.Hw, st.Fr, st.Gn, st.R, u128, st.T, st.O, st.B, st.W⟩ : MS) := by rw [q126, E122]; rfl
    have h130 : w127[0]? = some (a.m, .inr (5, [.int (nI st.th), .ref a.aS, .ref a.aK, .ref a.aI, .int (nI st.ex), .ref a.aH, .ref a.aF, .ref a.aG, .int (nI st.va), .ref a.aR, .int (nI st.co), .ref a.aL, .ref a.aT, .ref a.aO, .ref a.aB, .ref a.aW, .int (nI st.sv), .int (nI st.kn), .int (nI st.kc)])) := by rw [E129]; rfl
    have h131 : w127[8]? = some (a.aL, aI G 60 (rI u128)) := by rw [E129]; rfl
    have h132 : w127[9]? = some (a.aT, aI G 60 (rI st.T)) := by rw [E129]; rfl
    have e7 : wkS 8 E (V, K) (nI ja) x2 x3 = ((V, K), cmb 1 (unit 0) 96 (sE E ja)) := by simp [wkS, mkSum, ix_nI (show ja < 2 ^ 31 by omega)]
    have eS : ∀ j, V.length ≤ j → j < 60 → cmb 1 (unit 0) 96 (sE E ja) j = 0 := fun j h1 hj => by simp [cmb, unit_0 (show j ≠ 0 by omega), hS7 ja j gja h1 hj]
    refine lv_goto (tgt := 275) hx hb d_M_work_235 (by decide) ?_
    exact x_vret hx hb hr hlocks hS hP hD (Nat.le_of_ble_eq_true rfl) (Nat.le_of_ble_eq_true rfl) d_M_work_275 (⟨_, E129, by rw [e7]; exact hM, by rw [e7]; exact h_u128, by rw [e7]; exact eS, by rw [e7]; exact (fun j _ => cmb_lt j), rfl, fun q => absurd q (by decide)⟩)
  · refine lv_iload_n hx hb d_M_work_0 rfl (lv_at hl 1 rfl) ?_
    refine lv_tableOut (tgt := 238) hx hb d_M_work_1 (by decide) (by decide) ?_
    obtain ⟨ja, gja, rfl⟩ := w2 (by decide)
    obtain ⟨b, hb1, hb5, rfl⟩ := w5 rfl
    have n7 : nd 9 E (nI ja) (nI b) x3 = (b - 1) * cp (sE E ja) (sE E ja) := by simp [nd, ix_nI (show ja < 2 ^ 31 by omega), ix_nI (show b < 2 ^ 31 by omega)]
    rw [n7] at bK
    rw [if_neg (by decide), n7] at bV
    refine lv_aload_n hx hb d_M_work_238 rfl (lv_at hl 0 rfl) ?_
    refine lv_aload_n hx hb d_M_work_239 rfl (lv_at hl 0 rfl) ?_
    refine va_get (D := xD G) (ci := 5) (C := R_M) (T := F_M) (N := 19) hx hb ht in_M hown hK hP 0 h1 rfl 11 (by decide) (ht _ k_fl_M_35) (fun _ h9 => h9) rfl d_M_work_240 ?_
    refine lv_iload_n hx hb d_M_work_243 rfl (lv_at hl 2 rfl) ?_
    refine x_callv (va_runV (As := [.ref a.aL, .int (nI ja)]) (rest := []) ⟨hx, hb, hml, hown, ht⟩ (c_M_fetch l G A ws a (⟨st.th, st.ex, st.va, st.co, st.sv, st.kn, st.kc, st.S, st.Kd, st.In, st.Hw, st.Fr, st.Gn, st.R, st.L, st.T, st.O, st.B, st.W⟩ : MS) hw 8 a.aL st.L h2 (by decide) ja (by omega)) (cwV 2 ht (TW_V k_ml_M_100 k_im_M_fetch k_se_M_fetch k_in_M k_code_M_fetch) rfl rfl rfl hv_M_fetch ⟨Nat.le_of_ble_eq_true rfl, Nat.le_of_ble_eq_true rfl⟩) ⟨x_blind, va_recv hK hP rfl h1, x_pre hE hA hS hP hD⟩ rfl rfl hl.1 rfl (lv_room (Nat.le_of_ble_eq_true rfl)) d_M_work_244 ⟨Nat.le_of_ble_eq_true rfl, Nat.le_of_ble_eq_true rfl⟩) hS (fun w134 H locs q133 hP hD hS => ?_)
    have q133 : w134 = ws.set 8 (a.aL, aI G 60 (rI (ovb 60 0 st.L (fun j => st.S (60 * ja + j))))) := q133
    obtain ⟨u135, e_u135⟩ : ∃ zz : Nat → Nat, zz = ovb 60 0 st.L (fun j => st.S (60 * ja + j)) := ⟨_, rfl⟩
    rw [← e_u135] at q133
    have h_u135 : ∀ j, j < 60 → u135 j = sE E ja j := fun j hj => by rw [e_u135, ovb_at hj]; exact hS9 ja j gja hj
    have E136 : w134 = mW G a (⟨st.th, st.ex, st.va, st.co, st.sv, st.kn, st.kc, st.S, st.Kd, st.In, st.Hw, st.Fr, st.Gn, st.R, u135, st.T, st.O, st.B, st.W⟩ : MS) := by rw [q133, hw]; rfl
    have h137 : w134[0]? = some (a.m, .inr (5, [.int (nI st.th), .ref a.aS, .ref a.aK, .ref a.aI, .int (nI st.ex), .ref a.aH, .ref a.aF, .ref a.aG, .int (nI st.va), .ref a.aR, .int (nI st.co), .ref a.aL, .ref a.aT, .ref a.aO, .ref a.aB, .ref a.aW, .int (nI st.sv), .int (nI st.kn), .int (nI st.kc)])) := by rw [E136]; rfl
    have h138 : w134[8]? = some (a.aL, aI G 60 (rI u135)) := by rw [E136]; rfl
    have h139 : w134[9]? = some (a.aT, aI G 60 (rI st.T)) := by rw [E136]; rfl
    refine lv_iconst (v := (nI 1)) hx hb d_M_work_247 (by decide) ?_
    refine lv_istore (lv' := [(5, .int (nI 1)), (0, .ref a.m), (1, .int (nI 9)), (2, .int (nI ja)), (3, .int (nI b)), (4, .int x3)]) hx hb d_M_work_248 hl (by decide) rfl (fun ls hl => ?_)
    have e7 : wkS 9 E (V, K) (nI ja) (nI b) x3 = powS (b - 1) (V, K) (sE E ja) (sE E ja) := by simp [wkS, mkSum, ix_nI (show ja < 2 ^ 31 by omega), ix_nI (show b < 2 ^ 31 by omega)]
    have loop : ∀ (n i : Nat), i + n = b → 1 ≤ i → ∀ (V1 : List VV) (K1 : List KK) (cur : Nat → Nat) (st1 : MS) (w9 : va_W) (H : Heap) (locs : List Loc) (ls : Array Slot), powS n (V1, K1) cur (sE E ja) = powS (b - 1) (V, K) (sE E ja) (sE E ja) → V1.length ≤ V.length + (i - 1) * cp (sE E ja) (sE E ja) → K1.length ≤ K.length + (i - 1) * cp (sE E ja) (sE E ja) → V.length ≤ V1.length → w9 = mW G a st1 → MRel st1 V1 E K1 inp w wV wC → (∀ j, j < 60 → st1.L j = cur j) → (∀ j, j < 60 → cur j < 97) → (∀ j, V1.length ≤ j → j < 60 → cur j = 0) → st1.th = st.th → va_P (xD G) CL w9 H → va_D A w9 → va_S A s.heap H locs → lv_has ls 6 [(5, .int (nI i)), (0, .ref a.m), (1, .int (nI 9)), (2, .int (nI ja)), (3, .int (nI b)), (4, .int x3)] → W p l e (headSpec (cw_M_work :: TW) { frames := 5, cells := 0, slots := 0, locals := 130 }).room s m ([.ref a.m, .int (nI 9), .int (nI ja), .int (nI b), .int x3] : List Value).toArray below meth c H locs 0 0 (MQ below (qV G A (fun w9 => ∃ st' : MS, w9 = mW G a st' ∧ MRel st' (wkS 9 E (V, K) (nI ja) (nI b) x3).1.1 E (wkS 9 E (V, K) (nI ja) (nI b) x3).1.2 inp w wV wC ∧ (∀ j, j < 60 → st'.L j = (wkS 9 E (V, K) (nI ja) (nI b) x3).2 j) ∧ (∀ j, (wkS 9 E (V, K) (nI ja) (nI b) x3).1.1.length ≤ j → j < 60 → (wkS 9 E (V, K) (nI ja) (nI b) x3).2 j = 0) ∧ (∀ j, j < 60 → (wkS 9 E (V, K) (nI ja) (nI b) x3).2 j < 97) ∧ st'.th = st.th ∧ (9 = 1 → st'.In E.length = V.length))) ([.ref a.m, .int (nI 9), .int (nI ja), .int (nI b), .int x3] : List Value).toArray s 0 0 A) (F0 m 250 ls []) := by
      intro n
      induction n with
      | zero =>
        intro i hi hi1 V1 K1 cur st1 w9 H locs ls he hlV hlK hlv hw1 rel1 L1 bc sc th1 hP hD hS hl
        have h140 : w9[0]? = some (a.m, .inr (5, [.int (nI st1.th), .ref a.aS, .ref a.aK, .ref a.aI, .int (nI st1.ex), .ref a.aH, .ref a.aF, .ref a.aG, .int (nI st1.va), .ref a.aR, .int (nI st1.co), .ref a.aL, .ref a.aT, .ref a.aO, .ref a.aB, .ref a.aW, .int (nI st1.sv), .int (nI st1.kn), .int (nI st1.kc)])) := by rw [hw1]; rfl
        have h141 : w9[8]? = some (a.aL, aI G 60 (rI st1.L)) := by rw [hw1]; rfl
        have h142 : w9[9]? = some (a.aT, aI G 60 (rI st1.T)) := by rw [hw1]; rfl
        refine lv_iload hx hb d_M_work_250 (lv_at hl 0 rfl) ?_
        refine lv_iload_n hx hb d_M_work_252 rfl (lv_at hl 4 rfl) ?_
        refine x_ge hx hb i b rfl rfl (by omega) (by omega) (tgt := 275) d_M_work_253 (by decide) (fun c143 => ?_) (fun c143 => ?_)
        · have e8 : powS (b - 1) (V, K) (sE E ja) (sE E ja) = ((V1, K1), cur) := he.symm
          rw [e8] at e7
          exact x_vret hx hb hr hlocks hS hP hD (Nat.le_of_ble_eq_true rfl) (Nat.le_of_ble_eq_true rfl) d_M_work_275 (⟨_, hw1, by rw [e7]; exact rel1, by rw [e7]; exact L1, by rw [e7]; exact sc, by rw [e7]; exact bc, th1, fun q => absurd q (by decide)⟩)
        · exact False.elim (by omega)
      | succ n ih =>
        intro i hi hi1 V1 K1 cur st1 w9 H locs ls he hlV hlK hlv hw1 rel1 L1 bc sc th1 hP hD hS hl
        have h144 : w9[0]? = some (a.m, .inr (5, [.int (nI st1.th), .ref a.aS, .ref a.aK, .ref a.aI, .int (nI st1.ex), .ref a.aH, .ref a.aF, .ref a.aG, .int (nI st1.va), .ref a.aR, .int (nI st1.co), .ref a.aL, .ref a.aT, .ref a.aO, .ref a.aB, .ref a.aW, .int (nI st1.sv), .int (nI st1.kn), .int (nI st1.kc)])) := by rw [hw1]; rfl
        have h145 : w9[8]? = some (a.aL, aI G 60 (rI st1.L)) := by rw [hw1]; rfl
        have h146 : w9[9]? = some (a.aT, aI G 60 (rI st1.T)) := by rw [hw1]; rfl
        refine lv_iload hx hb d_M_work_250 (lv_at hl 0 rfl) ?_
        refine lv_iload_n hx hb d_M_work_252 rfl (lv_at hl 4 rfl) ?_
        refine x_ge hx hb i b rfl rfl (by omega) (by omega) (tgt := 275) d_M_work_253 (by decide) (fun c147 => ?_) (fun c147 => ?_)
        · exact False.elim (by omega)
        · have cr := cp_right cur (sE E ja)
          have m1 : i * cp (sE E ja) (sE E ja) ≤ (b - 1) * cp (sE E ja) (sE E ja) := Nat.mul_le_mul (by omega) (Nat.le_refl _)
          have m2 : i * cp (sE E ja) (sE E ja) = (i - 1) * cp (sE E ja) (sE E ja) + cp (sE E ja) (sE E ja) := by rw [show i = (i - 1) + 1 by omega, Nat.add_mul, Nat.one_mul, Nat.add_sub_cancel]
          refine lv_aload_n hx hb d_M_work_256 rfl (lv_at hl 1 rfl) ?_
          refine lv_aload_n hx hb d_M_work_257 rfl (lv_at hl 1 rfl) ?_
          refine va_get (D := xD G) (ci := 5) (C := R_M) (T := F_M) (N := 19) hx hb ht in_M hown hK hP 0 h144 rfl 12 (by decide) (ht _ k_fl_M_38) (fun _ h9 => h9) rfl d_M_work_258 ?_
          refine lv_iload_n hx hb d_M_work_261 rfl (lv_at hl 3 rfl) ?_
          refine x_callv (va_runV (As := [.ref a.aT, .int (nI ja)]) (rest := []) ⟨hx, hb, hml, hown, ht⟩ (c_M_fetch l G A w9 a (⟨st1.th, st1.ex, st1.va, st1.co, st1.sv, st1.kn, st1.kc, st1.S, st1.Kd, st1.In, st1.Hw, st1.Fr, st1.Gn, st1.R, st1.L, st1.T, st1.O, st1.B, st1.W⟩ : MS) hw1 9 a.aT st1.T h146 (by decide) ja (by omega)) (cwV 2 ht (TW_V k_ml_M_100 k_im_M_fetch k_se_M_fetch k_in_M k_code_M_fetch) rfl rfl rfl hv_M_fetch ⟨Nat.le_of_ble_eq_true rfl, Nat.le_of_ble_eq_true rfl⟩) ⟨x_blind, va_recv hK hP rfl h144, x_pre hE hA hS hP hD⟩ rfl rfl hl.1 rfl (lv_room (Nat.le_of_ble_eq_true rfl)) d_M_work_262 ⟨Nat.le_of_ble_eq_true rfl, Nat.le_of_ble_eq_true rfl⟩) hS (fun w149 H locs q148 hP hD hS => ?_)
          have q148 : w149 = w9.set 9 (a.aT, aI G 60 (rI (ovb 60 0 st1.T (fun j => st1.S (60 * ja + j))))) := q148
          obtain ⟨u150, e_u150⟩ : ∃ zz : Nat → Nat, zz = ovb 60 0 st1.T (fun j => st1.S (60 * ja + j)) := ⟨_, rfl⟩
          rw [← e_u150] at q148
          have h_u150 : ∀ j, j < 60 → u150 j = sE E ja j := fun j hj => by rw [e_u150, ovb_at hj]; exact (rel1.2.2.1.2.1 ja j gja hj).1
          have E151 : w149 = mW G a (⟨st1.th, st1.ex, st1.va, st1.co, st1.sv, st1.kn, st1.kc, st1.S, st1.Kd, st1.In, st1.Hw, st1.Fr, st1.Gn, st1.R, st1.L, u150, st1.O, st1.B, st1.W⟩ : MS) := by rw [q148, hw1]; rfl
          have h152 : w149[0]? = some (a.m, .inr (5, [.int (nI st1.th), .ref a.aS, .ref a.aK, .ref a.aI, .int (nI st1.ex), .ref a.aH, .ref a.aF, .ref a.aG, .int (nI st1.va), .ref a.aR, .int (nI st1.co), .ref a.aL, .ref a.aT, .ref a.aO, .ref a.aB, .ref a.aW, .int (nI st1.sv), .int (nI st1.kn), .int (nI st1.kc)])) := by rw [E151]; rfl
          have h153 : w149[8]? = some (a.aL, aI G 60 (rI st1.L)) := by rw [E151]; rfl
          have h154 : w149[9]? = some (a.aT, aI G 60 (rI u150)) := by rw [E151]; rfl
          refine lv_aload_n hx hb d_M_work_265 rfl (lv_at hl 1 rfl) ?_
          refine x_callv (va_runV (As := []) (rest := []) ⟨hx, hb, hml, hown, ht⟩ (c_M_mul l G A w149 a (⟨st1.th, st1.ex, st1.va, st1.co, st1.sv, st1.kn, st1.kc, st1.S, st1.Kd, st1.In, st1.Hw, st1.Fr, st1.Gn, st1.R, st1.L, u150, st1.O, st1.B, st1.W⟩ : MS) E151 V1 E K1 inp w wV wC rel1 cur (sE E ja) L1 h_u150 bc (fun j hj => hS8 ja j gja hj) sc (fun j h1 hj => hS7 ja j gja (by omega) hj) (by omega) (by omega)) (cwV 0 ht (TW_V k_ml_M_103 k_im_M_multiply k_se_M_multiply k_in_M k_code_M_multiply) rfl rfl rfl hv_M_multiply ⟨Nat.le_of_ble_eq_true rfl, Nat.le_of_ble_eq_true rfl⟩) ⟨x_blind, va_recv hK hP rfl h152, x_pre hE hA hS hP hD⟩ rfl rfl hl.1 rfl (lv_room (Nat.le_of_ble_eq_true rfl)) d_M_work_266 ⟨Nat.le_of_ble_eq_true rfl, Nat.le_of_ble_eq_true rfl⟩) hS (fun w156 H locs q155 hP hD hS => ?_)
          obtain ⟨st2, E2, rel2, L2, sup2, th2⟩ := q155
          obtain ⟨z1, z2⟩ := prodS_len (V1, K1) cur (sE E ja)
          refine lv_iinc (v := nI (i + 1)) (lv' := [(5, .int (nI (i + 1))), (0, .ref a.m), (1, .int (nI 9)), (2, .int (nI ja)), (3, .int (nI b)), (4, .int x3)]) hx hb d_M_work_269 hl (k := 0) rfl (n_inc _) (by decide) rfl (fun ls hl => ?_)
          refine lv_goto (tgt := 250) hx hb d_M_work_272 (by decide) ?_
          exact ih (i + 1) (by omega) (by omega) _ _ _ st2 w156 H locs ls (by rw [← he]; rfl) (by rw [z1, Nat.add_sub_cancel]; show V1.length + _ ≤ _; omega) (by rw [z2, Nat.add_sub_cancel]; show K1.length + _ ≤ _; omega) (by rw [z1]; show _ ≤ V1.length + _; omega) E2 rel2 L2 (prodS_lt _ _ _) sup2 (th2.trans th1) hP hD hS (lv_sub hl [0, 1, 2, 3, 4, 5] rfl)
    exact loop (b - 1) 1 (by omega) (by decide) V K (sE E ja) (⟨st.th, st.ex, st.va, st.co, st.sv, st.kn, st.kc, st.S, st.Kd, st.In, st.Hw, st.Fr, st.Gn, st.R, u135, st.T, st.O, st.B, st.W⟩ : MS) w134 H locs ls rfl (by omega) (by omega) (Nat.le_refl _) E136 hM h_u135 (fun j hj => hS8 ja j gja hj) (fun j h1 hj => hS7 ja j gja h1 hj) rfl hP hD hS (lv_sub hl [0, 1, 2, 3, 4, 5] rfl)
