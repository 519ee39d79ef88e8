theorem n_half {n : Nat} (h : n < 2 ^ 31) : nI n >>> (nI 1 &&& 31) = nI (n / 2) := pk_shrN h (nI 1 &&& 31) 1 (by decide)
theorem w_setapp {ws : va_W} {k : Nat} {x y z : Nat × va_E} (h : ws[k]? = some x) : (ws ++ [y]).set k z = ws.set k z ++ [y] := List.set_append_left k z (List.getElem?_eq_some_iff.mp h).1

set_option maxHeartbeats 4000000 in
set_option maxRecDepth 100000 in
theorem c_grow1 (l : Launch) (G : xG) (A : Nat → Prop) (ws : va_W) (kl al n : Nat) (mo : Int32) (ea : Nat) (g : Nat → Nat) (h0 : ws[kl]? = some (al, .inr (6, [.int mo, .ref ea, .int (nI n)]))) (hn : n ≤ 100) (hd : (n = 0 ∧ ea = xZ G) ∨ ∃ (k : Nat) (f : Nat → Option Nat), ws[k]? = some (ea, aO G n f) ∧ 0 < n ∧ ∀ j, j < n → f j = some (g j)) (hel : ∀ j, j < n → isO ws (g j)) : Met l y_A_grow1 (cw_A_grow1 :: TW) { frames := 4, cells := 1, slots := 150, locals := 104 } (va_Pc [.ref al, .int (nI (n + 1))] (x_P G A ws)) (qR G A (fun r w => ∃ (ncap : Nat) (f' : Nat → Option Nat), w = (ws ++ [(r, aO G ncap f')]).set kl (al, .inr (6, [.int mo, .ref r, .int (nI n)])) ∧ n < ncap ∧ ncap ≤ 150 ∧ ∀ j, j < n → f' j = some (g j))) 1 150 A := by
  refine va_MetF (cc := b_A_grow1) (maxL := 4) (ret := (some (.array (.object "java/lang/Object")))) (by decide +kernel) rfl ?_
  intro p e s m args below meth c s₁ B hml hv
  obtain ⟨rfl, hE, hA, hP, hD⟩ := hv
  have hx := B.exec
  have hb := B.bytes
  have hr := B.returns
  have ht : ∀ w ∈ TW, w.before _ s = true := fun w h => atoms_spec (ws := cw_A_grow1 :: TW) B.pre w (List.mem_cons_of_mem _ h)
  have hown : s.vm.findClass R_A = some m.cls := findClass_of_methodNamed B.named
  have hlocks := B.notSynchronized
  have hK := hE.1
  have hS : va_S A s.heap s.heap [] := va_S.rf
  have hl := lv_entry ([.ref al, .int (nI (n + 1))]) (n := 4) (Nat.le_of_ble_eq_true rfl)
  rw [lg_entry_eq]
  generalize (lg_sl ([.ref al, .int (nI (n + 1))]) ++ List.replicate (4 - (lg_sl ([.ref al, .int (nI (n + 1))])).length) Slot.unset).toArray = ls at hl ⊢
  have hl : lv_has ls 4 [(0, .ref al), (1, .int (nI (n + 1)))] := hl
  refine lv_aload_n hx hb d_A_grow1_0 rfl (lv_at hl 0 rfl) ?_
  refine va_get (D := xD G) (ci := 6) (C := R_A) (T := F_A) (N := 3) hx hb ht in_A hown hK hP kl h0 rfl 1 (by decide) (ht _ k_fl_A_9) (fun _ h9 => h9) rfl d_A_grow1_1 ?_
  rcases hd with ⟨rfl, rfl⟩ | ⟨k, f, h1, h2, h3⟩
  · refine va_tlen hx hb hE.2.2.1 hS (v := nI 0) rfl d_A_grow1_4 ?_
    refine lv_istore_n (lv' := [(2, .int (nI 0)), (0, .ref al), (1, .int (nI (0 + 1)))]) hx hb d_A_grow1_5 rfl hl (by decide) rfl (fun ls hl => ?_)
    refine lv_iload_n hx hb d_A_grow1_6 rfl (lv_at hl 0 rfl) ?_
    refine x_if_gt hx hb 0 rfl (by omega) (tgt := 20) d_A_grow1_7 (by decide) (fun c1 => ?_) (fun c1 => ?_)
    · exact False.elim (by omega)
    · refine lv_aload_n hx hb d_A_grow1_10 rfl (lv_at hl 1 rfl) ?_
      refine va_get (D := xD G) (ci := 6) (C := R_A) (T := F_A) (N := 3) hx hb ht in_A hown hK hP kl h0 rfl 1 (by decide) (ht _ k_fl_A_9) (fun _ h9 => h9) rfl d_A_grow1_11 ?_
      refine va_gets hx hb hE.2.1 hS hown (ht _ k_fl_A_39) (fun _ h9 => h9) d_A_grow1_14 ?_
      refine lv_acmp_eq (rx := some (xZ G)) (ry := some (xZ G)) (tgt := 45) hx hb d_A_grow1_17 (by decide) (fun _ => ?_) (fun c1 => absurd rfl c1)
      refine lv_aload_n hx hb d_A_grow1_45 rfl (lv_at hl 1 rfl) ?_
      refine lv_bipush (v := (nI 10)) hx hb d_A_grow1_46 (by decide) ?_
      refine lv_iload_n hx hb d_A_grow1_48 rfl (lv_at hl 2 rfl) ?_
      refine va_mmax hx hb (by rw [hml]; exact hl.1.symm) hown (ht _ k_ml_A_79) (ht _ k_st_MA_max) (ht _ k_in_MA) (ht _ k_code_MA_max) (Nat.le_of_ble_eq_true rfl) (Nat.le_of_ble_eq_true rfl) (Nat.le_of_ble_eq_true rfl) (Nat.le_of_ble_eq_true rfl) d_A_grow1_49 ?_
      refine x_top (nI 10) (by decide) ?_
      refine x_newq hx hb hown (ht _ k_cl_A_7) hE.2.2.2.2.1 hK hP hD hS hA 10 rfl (by decide) (Nat.le_of_ble_eq_true rfl) (Nat.le_of_ble_eq_true rfl) d_A_grow1_52 (fun q H hP hD hS => ?_)
      refine W.widen (k := 1) (n := 150) (Nat.le_of_ble_eq_true rfl) (Nat.le_of_ble_eq_true rfl) ?_
      have hP : va_P (xD G) CL (ws ++ [(q, aO G 10 (fun _ => none))]) H := hP
      have hD : va_D A (ws ++ [(q, aO G 10 (fun _ => none))]) := hD
      obtain ⟨w2, e_w2⟩ : ∃ zz : va_W, zz = ws ++ [(q, aO G 10 (fun _ => none))] := ⟨_, rfl⟩
      rw [← e_w2] at hP hD
      have h3 : w2[kl]? = some (al, .inr (6, [.int mo, .ref (xZ G), .int (nI 0)])) := by rw [e_w2]; exact w_app h0
      refine lv_dup_x1 hx hb d_A_grow1_55 rfl rfl ?_
      refine va_put (D := xD G) (ci := 6) (v := .ref q) (ty := .array (.object "java/lang/Object")) (C := R_A) (T := F_A) (N := 3) hx hb ht in_A ft_A fo_A nm_A hown hK hP hD hS kl h3 rfl 1 (by decide) (ht _ k_fl_A_9) (fun _ h9 => h9) rfl (by decide +kernel) rfl rfl (Nat.le_of_ble_eq_true rfl) d_A_grow1_56 (fun H locs hP hD hS => ?_)
      have hP : va_P (xD G) CL (w2.set kl (al, .inr (6, [.int mo, .ref q, .int (nI 0)]))) H := hP
      have hD : va_D A (w2.set kl (al, .inr (6, [.int mo, .ref q, .int (nI 0)]))) := hD
      obtain ⟨w4, e_w4⟩ : ∃ zz : va_W, zz = w2.set kl (al, .inr (6, [.int mo, .ref q, .int (nI 0)])) := ⟨_, rfl⟩
      rw [← e_w4] at hP hD
      have h5 : w4[kl]? = some (al, .inr (6, [.int mo, .ref q, .int (nI 0)])) := by rw [e_w4]; exact w_eq h3
      exact x_aret hx hb hr (Or.inr ⟨_, rfl⟩) hlocks hS hP hD (Nat.le_of_ble_eq_true rfl) (Nat.le_of_ble_eq_true rfl) d_A_grow1_59 (⟨10, fun _ => none, by rw [e_w4, e_w2], by decide, by decide, fun j hj => by omega⟩)
  · refine va_alen hx hb hK hP k 2 h1 rfl (v := nI n) rfl d_A_grow1_4 ?_
    refine lv_istore_n (lv' := [(2, .int (nI n)), (0, .ref al), (1, .int (nI (n + 1)))]) hx hb d_A_grow1_5 rfl hl (by decide) rfl (fun ls hl => ?_)
    refine lv_iload_n hx hb d_A_grow1_6 rfl (lv_at hl 0 rfl) ?_
    refine x_if_gt hx hb n rfl (by omega) (tgt := 20) d_A_grow1_7 (by decide) (fun c6 => ?_) (fun c6 => ?_)
    · refine lv_iload_n hx hb d_A_grow1_20 rfl (lv_at hl 0 rfl) ?_
      refine lv_iload_n hx hb d_A_grow1_21 rfl (lv_at hl 2 rfl) ?_
      refine lv_iload_n hx hb d_A_grow1_22 rfl (lv_at hl 0 rfl) ?_
      refine lv_isub hx hb d_A_grow1_23 ?_
      refine x_top (nI ((n + 1) - n)) (pk_sub (by omega)) ?_
      refine lv_iload_n hx hb d_A_grow1_24 rfl (lv_at hl 0 rfl) ?_
      refine lv_iconst (v := (nI 1)) hx hb d_A_grow1_25 (by decide) ?_
      refine lv_ishr hx hb d_A_grow1_26 ?_
      refine x_top (nI (n / 2)) (n_half (by omega)) ?_
      have e8 : n + 1 - n = 1 := by omega
      rw [e8]
      refine x_calli (va_runS (As := [.int (nI n), .int (nI 1), .int (nI (n / 2))]) (rest := []) ⟨hx, hb, hml, hown, ht⟩ (c_newLength l G A ws n (n / 2) (by omega) (by omega)) (va_cwS 3 ht (TW_S k_ml_A_73 k_st_AS_newLength k_in_AS k_code_AS_newLength) rfl rfl rfl hv_AS_newLength.2 ⟨Nat.le_of_ble_eq_true rfl, Nat.le_of_ble_eq_true rfl⟩) ⟨x_blind, x_pre hE hA hS hP hD⟩ rfl rfl hl.1 rfl (lv_room (Nat.le_of_ble_eq_true rfl)) d_A_grow1_27 ⟨Nat.le_of_ble_eq_true rfl, Nat.le_of_ble_eq_true rfl⟩) hS (fun r9 w8 H locs q7 hP hD hS => ?_)
      obtain ⟨rfl, rfl⟩ := q7
      obtain ⟨nc, e7⟩ : ∃ nc, nc = n + max 1 (n / 2) := ⟨_, rfl⟩
      rw [← e7]
      have e6 : n < nc ∧ nc ≤ 150 := by omega
      refine lv_istore_n (lv' := [(3, .int (nI nc)), (2, .int (nI n)), (0, .ref al), (1, .int (nI (n + 1)))]) hx hb d_A_grow1_30 rfl hl (by decide) rfl (fun ls hl => ?_)
      refine lv_aload_n hx hb d_A_grow1_31 rfl (lv_at hl 2 rfl) ?_
      refine lv_aload_n hx hb d_A_grow1_32 rfl (lv_at hl 2 rfl) ?_
      refine va_get (D := xD G) (ci := 6) (C := R_A) (T := F_A) (N := 3) hx hb ht in_A hown hK hP kl h0 rfl 1 (by decide) (ht _ k_fl_A_9) (fun _ h9 => h9) rfl d_A_grow1_33 ?_
      refine lv_iload_n hx hb d_A_grow1_36 rfl (lv_at hl 0 rfl) ?_
      refine x_callr (va_runS (As := [.ref ea, .int (nI nc)]) (rest := [.ref al]) ⟨hx, hb, hml, hown, ht⟩ (c_copyOf2 l G A ws k ea n nc f h1 (by omega) (by omega) (fun j y hj hy => by rw [h3 j hj] at hy; cases hy; exact hel j hj)) (va_cwS 2 ht (TW_S k_ml_A_66 k_st_AR_copyOf2 k_in_AR k_code_AR_copyOf2) rfl rfl rfl hv_AR_copyOf2.2 ⟨Nat.le_of_ble_eq_true rfl, Nat.le_of_ble_eq_true rfl⟩) ⟨x_blind, x_pre hE hA hS hP hD⟩ rfl rfl hl.1 rfl (lv_room (Nat.le_of_ble_eq_true rfl)) d_A_grow1_37 ⟨Nat.le_of_ble_eq_true rfl, Nat.le_of_ble_eq_true rfl⟩) hS (fun r12 w11 H locs q10 hP hD hS => ?_)
      refine W.widen (k := 1) (n := 150) (Nat.le_of_ble_eq_true rfl) (Nat.le_of_ble_eq_true rfl) ?_
      have hk : w11[kl]? = some (al, .inr (6, [.int mo, .ref ea, .int (nI n)])) := by rw [q10]; exact w_app h0
      refine lv_dup_x1 hx hb d_A_grow1_40 rfl rfl ?_
      refine va_put (D := xD G) (ci := 6) (v := .ref r12) (ty := .array (.object "java/lang/Object")) (C := R_A) (T := F_A) (N := 3) hx hb ht in_A ft_A fo_A nm_A hown hK hP hD hS kl hk rfl 1 (by decide) (ht _ k_fl_A_9) (fun _ h9 => h9) rfl (by decide +kernel) rfl rfl (Nat.le_of_ble_eq_true rfl) d_A_grow1_41 (fun H locs hP hD hS => ?_)
      have hP : va_P (xD G) CL (w11.set kl (al, .inr (6, [.int mo, .ref r12, .int (nI n)]))) H := hP
      have hD : va_D A (w11.set kl (al, .inr (6, [.int mo, .ref r12, .int (nI n)]))) := hD
      obtain ⟨w13, e_w13⟩ : ∃ zz : va_W, zz = w11.set kl (al, .inr (6, [.int mo, .ref r12, .int (nI n)])) := ⟨_, rfl⟩
      rw [← e_w13] at hP hD
      have h14 : w13[kl]? = some (al, .inr (6, [.int mo, .ref r12, .int (nI n)])) := by rw [e_w13]; exact w_eq hk
      exact x_aret hx hb hr (Or.inr ⟨_, rfl⟩) hlocks hS hP hD (Nat.le_of_ble_eq_true rfl) (Nat.le_of_ble_eq_true rfl) d_A_grow1_44 (⟨nc, _, by rw [e_w13, q10], e6.1, e6.2, fun j hj => by rw [pk_cpy_in (by omega) (by omega), Nat.zero_add]; exact h3 j hj⟩)
    · exact False.elim (by omega)

set_option maxHeartbeats 4000000 in
set_option maxRecDepth 100000 in
theorem c_grow0 (l : Launch) (G : xG) (A : Nat → Prop) (ws : va_W) (kl al n : Nat) (mo : Int32) (ea : Nat) (g : Nat → Nat) (h0 : ws[kl]? = some (al, .inr (6, [.int mo, .ref ea, .int (nI n)]))) (hn : n ≤ 100) (hd : (n = 0 ∧ ea = xZ G) ∨ ∃ (k : Nat) (f : Nat → Option Nat), ws[k]? = some (ea, aO G n f) ∧ 0 < n ∧ ∀ j, j < n → f j = some (g j)) (hel : ∀ j, j < n → isO ws (g j)) : Met l y_A_grow0 (cw_A_grow0 :: TW) { frames := 5, cells := 1, slots := 150, locals := 130 } (va_Pc [.ref al] (x_P G A ws)) (qR G A (fun r w => ∃ (ncap : Nat) (f' : Nat → Option Nat), w = (ws ++ [(r, aO G ncap f')]).set kl (al, .inr (6, [.int mo, .ref r, .int (nI n)])) ∧ n < ncap ∧ ncap ≤ 150 ∧ ∀ j, j < n → f' j = some (g j))) 1 150 A := by
  refine va_MetF (cc := b_A_grow0) (maxL := 1) (ret := (some (.array (.object "java/lang/Object")))) (by decide +kernel) rfl ?_
  intro p e s m args below meth c s₁ B hml hv
  obtain ⟨rfl, hE, hA, hP, hD⟩ := hv
  have hx := B.exec
  have hb := B.bytes
  have hr := B.returns
  have ht : ∀ w ∈ TW, w.before _ s = true := fun w h => atoms_spec (ws := cw_A_grow0 :: TW) B.pre w (List.mem_cons_of_mem _ h)
  have hown : s.vm.findClass R_A = some m.cls := findClass_of_methodNamed B.named
  have hlocks := B.notSynchronized
  have hK := hE.1
  have hS : va_S A s.heap s.heap [] := va_S.rf
  have hl := lv_entry ([.ref al]) (n := 1) (Nat.le_of_ble_eq_true rfl)
  rw [lg_entry_eq]
  generalize (lg_sl ([.ref al]) ++ List.replicate (1 - (lg_sl ([.ref al])).length) Slot.unset).toArray = ls at hl ⊢
  have hl : lv_has ls 1 [(0, .ref al)] := hl
  refine lv_aload_n hx hb d_A_grow0_0 rfl (lv_at hl 0 rfl) ?_
  refine lv_aload_n hx hb d_A_grow0_1 rfl (lv_at hl 0 rfl) ?_
  refine va_get (D := xD G) (ci := 6) (C := R_A) (T := F_A) (N := 3) hx hb ht in_A hown hK hP kl h0 rfl 2 (by decide) (ht _ k_fl_A_48) (fun _ h9 => h9) rfl d_A_grow0_2 ?_
  refine lv_iconst (v := (nI 1)) hx hb d_A_grow0_5 (by decide) ?_
  refine lv_iadd hx hb d_A_grow0_6 ?_
  refine x_top (nI (n + 1)) (nI_add _ _) ?_
  refine x_callr (va_runV (As := [.int (nI (n + 1))]) (rest := []) ⟨hx, hb, hml, hown, ht⟩ (c_grow1 l G A ws kl al n mo ea g h0 hn hd hel) (cwV 1 ht (TW_V k_ml_A_69 k_im_A_grow1 k_se_A_grow1 k_in_A k_code_A_grow1) rfl rfl rfl hv_A_grow1 ⟨Nat.le_of_ble_eq_true rfl, Nat.le_of_ble_eq_true rfl⟩) ⟨x_blind, va_recv hK hP rfl h0, x_pre hE hA hS hP hD⟩ rfl rfl hl.1 rfl (lv_room (Nat.le_of_ble_eq_true rfl)) d_A_grow0_7 ⟨Nat.le_of_ble_eq_true rfl, Nat.le_of_ble_eq_true rfl⟩) hS (fun r3 w2 H locs q1 hP hD hS => ?_)
  refine W.widen (k := 1) (n := 150) (Nat.le_of_ble_eq_true rfl) (Nat.le_of_ble_eq_true rfl) ?_
  exact x_aret hx hb hr (Or.inr ⟨_, rfl⟩) hlocks hS hP hD (Nat.le_of_ble_eq_true rfl) (Nat.le_of_ble_eq_true rfl) d_A_grow0_10 (q1)

set_option maxHeartbeats 4000000 in
set_option maxRecDepth 100000 in
theorem c_add3 (l : Launch) (G : xG) (A : Nat → Prop) (ws : va_W) (kl : Nat) (ka : Option Nat) (al n v : Nat) (mo : Int32) (ea : Nat) (g : Nat → Nat) (h0 : ws[kl]? = some (al, .inr (6, [.int mo, .ref ea, .int (nI n)]))) (hn : n ≤ 100) (hd : (ka = none ∧ n = 0 ∧ ea = xZ G) ∨ ∃ (k cap : Nat) (f : Nat → Option Nat), ka = some k ∧ ws[k]? = some (ea, aO G cap f) ∧ n ≤ cap ∧ 0 < cap ∧ cap ≤ 150 ∧ ∀ j, j < n → f j = some (g j)) (hel : ∀ j, j < n → isO ws (g j)) (hv : isO ws v) : Met l y_A_add3 (cw_A_add3 :: TW) { frames := 6, cells := 1, slots := 150, locals := 156 } (va_Pc [.ref al, .ref v, .ref ea, .int (nI n)] (x_P G A ws)) (qV G A (fun w => ∃ ka' : Option Nat, isL G w kl ka' al (n + 1) (va_up g n v) ∧ keep2 kl ka ws w ∧ (ka' = ka ∨ ka' = some ws.length) ∧ ka' ≠ none)) 1 150 A := by
  refine va_MetF (cc := b_A_add3) (maxL := 4) (ret := none) (by decide +kernel) rfl ?_
  intro p e s m args below meth c s₁ B hml hv
  obtain ⟨rfl, hE, hA, hP, hD⟩ := hv
  have hx := B.exec
  have hb := B.bytes
  have hr := B.returns
  have ht : ∀ w ∈ TW, w.before _ s = true := fun w h => atoms_spec (ws := cw_A_add3 :: TW) B.pre w (List.mem_cons_of_mem _ h)
  have hown : s.vm.findClass R_A = some m.cls := findClass_of_methodNamed B.named
  have hlocks := B.notSynchronized
  have hK := hE.1
  have hS : va_S A s.heap s.heap [] := va_S.rf
  have hl := lv_entry ([.ref al, .ref v, .ref ea, .int (nI n)]) (n := 4) (Nat.le_of_ble_eq_true rfl)
  rw [lg_entry_eq]
  generalize (lg_sl ([.ref al, .ref v, .ref ea, .int (nI n)]) ++ List.replicate (4 - (lg_sl ([.ref al, .ref v, .ref ea, .int (nI n)])).length) Slot.unset).toArray = ls at hl ⊢
  have hl : lv_has ls 4 [(0, .ref al), (1, .ref v), (2, .ref ea), (3, .int (nI n))] := hl
  have kl9 : kl < ws.length := w_lt h0
  refine lv_iload_n hx hb d_A_add3_0 rfl (lv_at hl 3 rfl) ?_
  refine lv_aload_n hx hb d_A_add3_1 rfl (lv_at hl 2 rfl) ?_
  have gr : ∀ (q ncap : Nat) (f' : Nat → Option Nat) (w : va_W) (H : Heap) (locs : List Loc) (ls : Array Slot), w = (ws ++ [(q, aO G ncap f')]).set kl (al, .inr (6, [.int mo, .ref q, .int (nI n)])) → n < ncap → ncap ≤ 150 → (∀ j, j < n → f' j = some (g j)) → va_P (xD G) CL w H → va_D A w → va_S A s.heap H locs → lv_has ls 4 [(2, .ref q), (0, .ref al), (1, .ref v), (3, .int (nI n))] → W p l e (headSpec (cw_A_add3 :: TW) { frames := 6, cells := 1, slots := 150, locals := 156 }).room s m ([.ref al, .ref v, .ref ea, .int (nI n)] : List Value).toArray below meth c H locs 1 150 (MQ below (qV G A (fun w => ∃ ka' : Option Nat, isL G w kl ka' al (n + 1) (va_up g n v) ∧ keep2 kl ka ws w ∧ (ka' = ka ∨ ka' = some ws.length) ∧ ka' ≠ none)) ([.ref al, .ref v, .ref ea, .int (nI n)] : List Value).toArray s 1 150 A) (F0 m 11 ls []) := by
    intro q ncap f' w H locs ls ew hc1 hc2 hf hP hD hS hl
    have r0 : w[kl]? = some (al, .inr (6, [.int mo, .ref q, .int (nI n)])) := by rw [ew]; exact w_eq (w_app h0)
    have r1 : w[ws.length]? = some (q, aO G ncap f') := by rw [ew]; exact w_ne (by omega) w_new0
    have r2 : isO w v := by obtain ⟨k9, ci9, fs9, e1, e2⟩ := hv; exact ⟨k9, ci9, fs9, by rw [ew]; exact w_ne (w_dif h0 e1 (by rcases e2 with rfl | rfl | rfl <;> simp)) (w_app e1), e2⟩
    refine lv_aload_n hx hb d_A_add3_11 rfl (lv_at hl 0 rfl) ?_
    refine lv_iload_n hx hb d_A_add3_12 rfl (lv_at hl 3 rfl) ?_
    refine lv_aload_n hx hb d_A_add3_13 rfl (lv_at hl 2 rfl) ?_
    refine x_aast hx hb hK hP hD hS r1 (isO.any hE hP r2) n rfl (by omega) (by omega) d_A_add3_14 (fun H locs hP hD hS => ?_)
    have hP : va_P (xD G) CL (w.set ws.length (q, aO G ncap (va_up f' n (some v)))) H := hP
    have hD : va_D A (w.set ws.length (q, aO G ncap (va_up f' n (some v)))) := hD
    obtain ⟨w1, e_w1⟩ : ∃ zz : va_W, zz = w.set ws.length (q, aO G ncap (va_up f' n (some v))) := ⟨_, rfl⟩
    rw [← e_w1] at hP hD
    have h2 : w1[kl]? = some (al, .inr (6, [.int mo, .ref q, .int (nI n)])) := by rw [e_w1]; exact w_ne (by omega) r0
    have h3 : w1[ws.length]? = some (q, aO G ncap (va_up f' n (some v))) := by rw [e_w1]; exact w_eq r1
    refine lv_aload_n hx hb d_A_add3_15 rfl (lv_at hl 1 rfl) ?_
    refine lv_iload_n hx hb d_A_add3_16 rfl (lv_at hl 3 rfl) ?_
    refine lv_iconst (v := (nI 1)) hx hb d_A_add3_17 (by decide) ?_
    refine lv_iadd hx hb d_A_add3_18 ?_
    refine x_top (nI (n + 1)) (nI_add _ _) ?_
    refine va_put (D := xD G) (ci := 6) (v := .int (nI (n + 1))) (ty := .int) (C := R_A) (T := F_A) (N := 3) hx hb ht in_A ft_A fo_A nm_A hown hK hP hD hS kl h2 rfl 2 (by decide) (ht _ k_fl_A_48) (fun _ h9 => h9) rfl (by decide +kernel) rfl rfl (Nat.le_of_ble_eq_true rfl) d_A_add3_19 (fun H locs hP hD hS => ?_)
    have hP : va_P (xD G) CL (w1.set kl (al, .inr (6, [.int mo, .ref q, .int (nI (n + 1))]))) H := hP
    have hD : va_D A (w1.set kl (al, .inr (6, [.int mo, .ref q, .int (nI (n + 1))]))) := hD
    obtain ⟨w4, e_w4⟩ : ∃ zz : va_W, zz = w1.set kl (al, .inr (6, [.int mo, .ref q, .int (nI (n + 1))])) := ⟨_, rfl⟩
    rw [← e_w4] at hP hD
    have h5 : w4[kl]? = some (al, .inr (6, [.int mo, .ref q, .int (nI (n + 1))])) := by rw [e_w4]; exact w_eq h2
    have h6 : w4[ws.length]? = some (q, aO G ncap (va_up f' n (some v))) := by rw [e_w4]; exact w_ne (by omega) h3
    refine x_vret hx hb hr hlocks hS hP hD (Nat.le_of_ble_eq_true rfl) (Nat.le_of_ble_eq_true rfl) d_A_add3_22 (⟨some ws.length, ⟨mo, q, h5, Or.inr ⟨ws.length, ncap, va_up f' n (some v), rfl, h6, by omega, by omega, hc2, ?_⟩⟩, ⟨fun j x hx1 hx2 hx3 => ?_, ?_⟩, Or.inr rfl, by simp⟩)
    · intro j hj
      unfold va_up
      split
      · rfl
      · exact hf j (by omega)
    · rw [e_w4, e_w1, ew]
      exact w_ne (Ne.symm hx2) (w_ne (by have := w_lt hx1; omega) (w_ne (Ne.symm hx2) (w_app hx1)))
    · rw [e_w4, e_w1, ew]
      simp
  rcases hd with ⟨hk, rfl, rfl⟩ | ⟨k, cap, f, hk, h1, h2, h3, h4, h5⟩
  · refine va_tlen hx hb hE.2.2.1 hS (v := nI 0) rfl d_A_add3_2 ?_
    refine x_ne hx hb 0 0 rfl rfl (by omega) (by omega) (tgt := 11) d_A_add3_3 (by decide) (fun c7 => ?_) (fun c7 => ?_)
    · exact False.elim (by omega)
    · refine lv_aload_n hx hb d_A_add3_6 rfl (lv_at hl 0 rfl) ?_
      refine x_callr (va_runV (As := []) (rest := []) ⟨hx, hb, hml, hown, ht⟩ (c_grow0 l G A ws kl al 0 mo (xZ G) g h0 hn (Or.inl ⟨rfl, rfl⟩) hel) (cwV 0 ht (TW_V k_ml_A_129 k_im_A_grow0 k_se_A_grow0 k_in_A k_code_A_grow0) rfl rfl rfl hv_A_grow0 ⟨Nat.le_of_ble_eq_true rfl, Nat.le_of_ble_eq_true rfl⟩) ⟨x_blind, va_recv hK hP rfl h0, x_pre hE hA hS hP hD⟩ rfl rfl hl.1 rfl (lv_room (Nat.le_of_ble_eq_true rfl)) d_A_add3_7 ⟨Nat.le_of_ble_eq_true rfl, Nat.le_of_ble_eq_true rfl⟩) hS (fun r10 w9 H locs q8 hP hD hS => ?_)
      refine W.widen (k := 1) (n := 150) (Nat.le_of_ble_eq_true rfl) (Nat.le_of_ble_eq_true rfl) ?_
      refine lv_astore_n (lv' := [(2, .ref r10), (0, .ref al), (1, .ref v), (3, .int (nI 0))]) hx hb d_A_add3_10 rfl hl (by decide) rfl (fun ls hl => ?_)
      obtain ⟨ncap, f', e1, e2, e3, e4⟩ := q8
      exact gr r10 ncap f' w9 H locs ls e1 e2 e3 e4 hP hD hS hl
  · refine va_alen hx hb hK hP k 2 h1 rfl (v := nI cap) rfl d_A_add3_2 ?_
    refine x_ne hx hb n cap rfl rfl (by omega) (by omega) (tgt := 11) d_A_add3_3 (by decide) (fun c11 => ?_) (fun c11 => ?_)
    · refine lv_aload_n hx hb d_A_add3_11 rfl (lv_at hl 2 rfl) ?_
      refine lv_iload_n hx hb d_A_add3_12 rfl (lv_at hl 3 rfl) ?_
      refine lv_aload_n hx hb d_A_add3_13 rfl (lv_at hl 1 rfl) ?_
      refine x_aast hx hb hK hP hD hS h1 (isO.any hE hP hv) n rfl (by omega) (by omega) d_A_add3_14 (fun H locs hP hD hS => ?_)
      have kk9 : k ≠ kl := w_dif h1 h0 (by simp)
      have hP : va_P (xD G) CL (ws.set k (ea, aO G cap (va_up f n (some v)))) H := hP
      have hD : va_D A (ws.set k (ea, aO G cap (va_up f n (some v)))) := hD
      obtain ⟨w12, e_w12⟩ : ∃ zz : va_W, zz = ws.set k (ea, aO G cap (va_up f n (some v))) := ⟨_, rfl⟩
      rw [← e_w12] at hP hD
      have h13 : w12[kl]? = some (al, .inr (6, [.int mo, .ref ea, .int (nI n)])) := by rw [e_w12]; exact w_ne kk9 h0
      have h14 : w12[k]? = some (ea, aO G cap (va_up f n (some v))) := by rw [e_w12]; exact w_eq h1
      refine lv_aload_n hx hb d_A_add3_15 rfl (lv_at hl 0 rfl) ?_
      refine lv_iload_n hx hb d_A_add3_16 rfl (lv_at hl 3 rfl) ?_
      refine lv_iconst (v := (nI 1)) hx hb d_A_add3_17 (by decide) ?_
      refine lv_iadd hx hb d_A_add3_18 ?_
      refine x_top (nI (n + 1)) (nI_add _ _) ?_
      refine va_put (D := xD G) (ci := 6) (v := .int (nI (n + 1))) (ty := .int) (C := R_A) (T := F_A) (N := 3) hx hb ht in_A ft_A fo_A nm_A hown hK hP hD hS kl h13 rfl 2 (by decide) (ht _ k_fl_A_48) (fun _ h9 => h9) rfl (by decide +kernel) rfl rfl (Nat.le_of_ble_eq_true rfl) d_A_add3_19 (fun H locs hP hD hS => ?_)
      have hP : va_P (xD G) CL (w12.set kl (al, .inr (6, [.int mo, .ref ea, .int (nI (n + 1))]))) H := hP
      have hD : va_D A (w12.set kl (al, .inr (6, [.int mo, .ref ea, .int (nI (n + 1))]))) := hD
      obtain ⟨w15, e_w15⟩ : ∃ zz : va_W, zz = w12.set kl (al, .inr (6, [.int mo, .ref ea, .int (nI (n + 1))])) := ⟨_, rfl⟩
      rw [← e_w15] at hP hD
      have h16 : w15[kl]? = some (al, .inr (6, [.int mo, .ref ea, .int (nI (n + 1))])) := by rw [e_w15]; exact w_eq h13
      have h17 : w15[k]? = some (ea, aO G cap (va_up f n (some v))) := by rw [e_w15]; exact w_ne (Ne.symm kk9) h14
      refine x_vret hx hb hr hlocks hS hP hD (Nat.le_of_ble_eq_true rfl) (Nat.le_of_ble_eq_true rfl) d_A_add3_22 (⟨ka, ⟨mo, ea, h16, Or.inr ⟨k, cap, va_up f n (some v), hk, h17, by omega, h3, h4, ?_⟩⟩, ⟨fun j x hx1 hx2 hx3 => ?_, ?_⟩, Or.inl rfl, by rw [hk]; simp⟩)
      · intro j hj
        unfold va_up
        split
        · rfl
        · exact h5 j (by omega)
      · rw [e_w15, e_w12]
        exact w_ne (Ne.symm hx2) (w_ne (fun e => hx3 (by rw [hk, e])) hx1)
      · rw [e_w15, e_w12]
        simp
    · refine lv_aload_n hx hb d_A_add3_6 rfl (lv_at hl 0 rfl) ?_
      subst c11
      refine x_callr (va_runV (As := []) (rest := []) ⟨hx, hb, hml, hown, ht⟩ (c_grow0 l G A ws kl al n mo ea g h0 hn (Or.inr ⟨k, f, h1, by omega, h5⟩) hel) (cwV 0 ht (TW_V k_ml_A_129 k_im_A_grow0 k_se_A_grow0 k_in_A k_code_A_grow0) rfl rfl rfl hv_A_grow0 ⟨Nat.le_of_ble_eq_true rfl, Nat.le_of_ble_eq_true rfl⟩) ⟨x_blind, va_recv hK hP rfl h0, x_pre hE hA hS hP hD⟩ rfl rfl hl.1 rfl (lv_room (Nat.le_of_ble_eq_true rfl)) d_A_add3_7 ⟨Nat.le_of_ble_eq_true rfl, Nat.le_of_ble_eq_true rfl⟩) hS (fun r20 w19 H locs q18 hP hD hS => ?_)
      refine W.widen (k := 1) (n := 150) (Nat.le_of_ble_eq_true rfl) (Nat.le_of_ble_eq_true rfl) ?_
      refine lv_astore_n (lv' := [(2, .ref r20), (0, .ref al), (1, .ref v), (3, .int (nI n))]) hx hb d_A_add3_10 rfl hl (by decide) rfl (fun ls hl => ?_)
      obtain ⟨ncap, f', e1, e2, e3, e4⟩ := q18
      exact gr r20 ncap f' w19 H locs ls e1 e2 e3 e4 hP hD hS hl

set_option maxHeartbeats 4000000 in
set_option maxRecDepth 100000 in
theorem c_add (l : Launch) (G : xG) (A : Nat → Prop) (ws : va_W) (kl : Nat) (ka : Option Nat) (al n v : Nat) (g : Nat → Nat) (hL : isL G ws kl ka al n g) (hn : n ≤ 100) (hel : ∀ j, j < n → isO ws (g j)) (hv : isO ws v) : Met l y_A_add1 (cw_A_add1 :: TW) { frames := 7, cells := 1, slots := 150, locals := 182 } (va_Pc [.ref al, .ref v] (x_P G A ws)) (qI G A (fun _ w => ∃ ka' : Option Nat, isL G w kl ka' al (n + 1) (va_up g n v) ∧ keep2 kl ka ws w ∧ (ka' = ka ∨ ka' = some ws.length) ∧ ka' ≠ none)) 1 150 A := by
  refine va_MetF (cc := b_A_add1) (maxL := 2) (ret := (some .boolean)) (by decide +kernel) rfl ?_
  intro p e s m args below meth c s₁ B hml hv
  obtain ⟨rfl, hE, hA, hP, hD⟩ := hv
  have hx := B.exec
  have hb := B.bytes
  have hr := B.returns
  have ht : ∀ w ∈ TW, w.before _ s = true := fun w h => atoms_spec (ws := cw_A_add1 :: TW) B.pre w (List.mem_cons_of_mem _ h)
  have hown : s.vm.findClass R_A = some m.cls := findClass_of_methodNamed B.named
  have hlocks := B.notSynchronized
  have hK := hE.1
  have hS : va_S A s.heap s.heap [] := va_S.rf
  have hl := lv_entry ([.ref al, .ref v]) (n := 2) (Nat.le_of_ble_eq_true rfl)
  rw [lg_entry_eq]
  generalize (lg_sl ([.ref al, .ref v]) ++ List.replicate (2 - (lg_sl ([.ref al, .ref v])).length) Slot.unset).toArray = ls at hl ⊢
  have hl : lv_has ls 2 [(0, .ref al), (1, .ref v)] := hl
  obtain ⟨mo, ea, h0, hd⟩ := hL
  refine lv_aload_n hx hb d_A_add1_0 rfl (lv_at hl 0 rfl) ?_
  refine lv_dup hx hb d_A_add1_1 rfl ?_
  refine va_get (D := xD G) (ci := 6) (C := R_A) (T := F_A) (N := 3) hx hb ht in_A hown hK hP kl h0 rfl 0 (by decide) (ht _ k_fl_A_63) (fun x9 h9 => u_same (ht _ k_sf) x9 h9) rfl d_A_add1_2 ?_
  refine lv_iconst (v := (nI 1)) hx hb d_A_add1_5 (by decide) ?_
  refine lv_iadd hx hb d_A_add1_6 ?_
  refine lv_topi (fun mo2 _ => ?_)
  refine va_put (D := xD G) (ci := 6) (v := .int mo2) (ty := .int) (C := R_A) (T := F_A) (N := 3) hx hb ht in_A ft_A fo_A nm_A hown hK hP hD hS kl h0 rfl 0 (by decide) (ht _ k_fl_A_63) (fun x9 h9 => u_same (ht _ k_sf) x9 h9) rfl (by decide +kernel) rfl rfl (Nat.le_of_ble_eq_true rfl) d_A_add1_7 (fun H locs hP hD hS => ?_)
  have hP : va_P (xD G) CL (ws.set kl (al, .inr (6, [.int mo2, .ref ea, .int (nI n)]))) H := hP
  have hD : va_D A (ws.set kl (al, .inr (6, [.int mo2, .ref ea, .int (nI n)]))) := hD
  obtain ⟨w1, e_w1⟩ : ∃ zz : va_W, zz = ws.set kl (al, .inr (6, [.int mo2, .ref ea, .int (nI n)])) := ⟨_, rfl⟩
  rw [← e_w1] at hP hD
  have h2 : w1[kl]? = some (al, .inr (6, [.int mo2, .ref ea, .int (nI n)])) := by rw [e_w1]; exact w_eq h0
  have mv : ∀ a, isO ws a → isO w1 a := fun a h => by obtain ⟨k9, ci9, fs9, e1, e2⟩ := h; exact ⟨k9, ci9, fs9, by rw [e_w1]; exact w_ne (w_dif h0 e1 (by rcases e2 with rfl | rfl | rfl <;> simp)) e1, e2⟩
  refine lv_aload_n hx hb d_A_add1_10 rfl (lv_at hl 0 rfl) ?_
  refine lv_aload_n hx hb d_A_add1_11 rfl (lv_at hl 1 rfl) ?_
  refine lv_aload_n hx hb d_A_add1_12 rfl (lv_at hl 0 rfl) ?_
  refine va_get (D := xD G) (ci := 6) (C := R_A) (T := F_A) (N := 3) hx hb ht in_A hown hK hP kl h2 rfl 1 (by decide) (ht _ k_fl_A_9) (fun _ h9 => h9) rfl d_A_add1_13 ?_
  refine lv_aload_n hx hb d_A_add1_16 rfl (lv_at hl 0 rfl) ?_
  refine va_get (D := xD G) (ci := 6) (C := R_A) (T := F_A) (N := 3) hx hb ht in_A hown hK hP kl h2 rfl 2 (by decide) (ht _ k_fl_A_48) (fun _ h9 => h9) rfl d_A_add1_17 ?_
  have hd9 : (ka = none ∧ n = 0 ∧ ea = xZ G) ∨ ∃ (k cap : Nat) (f : Nat → Option Nat), ka = some k ∧ w1[k]? = some (ea, aO G cap f) ∧ n ≤ cap ∧ 0 < cap ∧ cap ≤ 150 ∧ ∀ j, j < n → f j = some (g j) := by
    rcases hd with h | ⟨k, cap, f, e1, e2, e3⟩
    · exact Or.inl h
    · exact Or.inr ⟨k, cap, f, e1, by rw [e_w1]; exact w_ne (w_dif h0 e2 (by simp)) e2, e3⟩
  refine x_callv (va_runV (As := [.ref v, .ref ea, .int (nI n)]) (rest := []) ⟨hx, hb, hml, hown, ht⟩ (c_add3 l G A w1 kl ka al n v mo2 ea g h2 hn hd9 (fun j hj => mv _ (hel j hj)) (mv v hv)) (cwV 3 ht (TW_V k_ml_A_131 k_im_A_add3 k_se_A_add3 k_in_A k_code_A_add3) rfl rfl rfl hv_A_add3 ⟨Nat.le_of_ble_eq_true rfl, Nat.le_of_ble_eq_true rfl⟩) ⟨x_blind, va_recv hK hP rfl h2, x_pre hE hA hS hP hD⟩ rfl rfl hl.1 rfl (lv_room (Nat.le_of_ble_eq_true rfl)) d_A_add1_20 ⟨Nat.le_of_ble_eq_true rfl, Nat.le_of_ble_eq_true rfl⟩) hS (fun w4 H locs q3 hP hD hS => ?_)
  refine W.widen (k := 1) (n := 150) (Nat.le_of_ble_eq_true rfl) (Nat.le_of_ble_eq_true rfl) ?_
  refine lv_iconst (v := (nI 1)) hx hb d_A_add1_23 (by decide) ?_
  obtain ⟨ka', e1, e2, e3, e4⟩ := q3
  have ln : w1.length = ws.length := by rw [e_w1]; exact w_setlen
  exact x_zret hx hb hr hlocks hS hP hD (Nat.le_of_ble_eq_true rfl) (Nat.le_of_ble_eq_true rfl) d_A_add1_24 rfl (⟨ka', e1, ⟨fun j x hx1 hx2 hx3 => e2.1 j x (by rw [e_w1]; exact w_ne (Ne.symm hx2) hx1) hx2 hx3, by rw [← ln]; exact e2.2⟩, by rw [← ln]; exact e3, e4⟩)
