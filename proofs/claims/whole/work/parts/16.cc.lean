set_option maxHeartbeats 4000000 in
set_option maxRecDepth 100000 in
theorem c_V_init (l : Launch) (G : xG) (A : Nat → Prop) (ws : va_W) (k a : Nat) (r : Int32) (x y : Nat) (h0 : ws[k]? = some (a, .inr (2, [.int 0, .null, .null, .int 0]))) : Met l y_V_init (cw_V_init :: TW) { frames := 1, cells := 0, slots := 0, locals := 26 } (va_Pc [.ref a, .int r, .ref x, .ref y] (x_P G A ws)) (qV G A (fun w9 => w9 = ws.set k (a, .inr (2, [.int r, .ref x, .ref y, .int 0])))) 0 0 A := by
  refine Met.ofW (cc := b_V_init) (maxL := 4) (ret := none) (by decide) rfl ?_
  intro p e s m args below meth c s₁ B hml hv
  obtain ⟨rfl, hE, hA, hP, hD⟩ := hv
  have hx := B.exec
  have hb := B.bytes
  have hr := B.returns
  have ht : ∀ w ∈ TW, w.before _ s = true := fun w h => atoms_spec (ws := cw_V_init :: TW) B.pre w (List.mem_cons_of_mem _ h)
  have hown : s.vm.findClass R_V = some m.cls := findClass_of_methodNamed B.named
  have hlocks := B.notSynchronized
  have hin : meth.name = "<init>" := (name_of_methodNamed B.named B.method).1
  have hK := hE.1
  have hS : va_S A s.heap s.heap [] := va_S.rf
  have hl := lv_entry ([.ref a, .int r, .ref x, .ref y]) (n := 4) (Nat.le_of_ble_eq_true rfl)
  rw [lg_entry_eq]
  generalize (lg_sl ([.ref a, .int r, .ref x, .ref y]) ++ List.replicate (4 - (lg_sl ([.ref a, .int r, .ref x, .ref y])).length) Slot.unset).toArray = ls at hl ⊢
  have hl : lv_has ls 4 [(0, .ref a), (1, .int r), (2, .ref x), (3, .ref y)] := hl
  refine lv_aload_n hx hb d_V_init_0 rfl (lv_at hl 0 rfl) ?_
  refine W.objInit hx hb hown (ht _ k_ml_V_3) (ht _ k_im_OJ_init) (ht _ k_code_OJ_init) rfl (by rw [hml]; exact hl.1) rfl d_V_init_1 (Nat.le_of_ble_eq_true rfl) (Nat.le_of_ble_eq_true rfl) ?_
  refine W.eq (g2 := F0 m 4 ls []) rfl ?_
  refine lv_aload_n hx hb d_V_init_4 rfl (lv_at hl 0 rfl) ?_
  refine lv_iload_n hx hb d_V_init_5 rfl (lv_at hl 1 rfl) ?_
  refine va_putF (D := xD G) (ci := 2) (v := .int r) (ty := .int) (C := R_V) (T := F_V) (N := 4) hx hb ht in_V ft_V fo_V nm_V hown hK hP hD hS k h0 rfl 0 (by decide) (ht _ k_fl_V_9) (fun _ h9 => h9) rfl hin rfl (by decide +kernel) rfl rfl (Nat.le_of_ble_eq_true rfl) d_V_init_6 (fun H locs hP hD hS => ?_)
  have hP : va_P (xD G) CL (ws.set k (a, .inr (2, [.int r, .null, .null, .int 0]))) H := hP
  have hD : va_D A (ws.set k (a, .inr (2, [.int r, .null, .null, .int 0]))) := hD
  obtain ⟨w1, e_w1⟩ : ∃ zz : va_W, zz = ws.set k (a, .inr (2, [.int r, .null, .null, .int 0])) := ⟨_, rfl⟩
  rw [← e_w1] at hP hD
  have h2 : w1[k]? = some (a, .inr (2, [.int r, .null, .null, .int 0])) := by rw [e_w1]; exact w_eq h0
  refine lv_aload_n hx hb d_V_init_9 rfl (lv_at hl 0 rfl) ?_
  refine lv_aload_n hx hb d_V_init_10 rfl (lv_at hl 2 rfl) ?_
  refine va_putF (D := xD G) (ci := 2) (v := .ref x) (ty := .object "ConstraintCompiler$Sum") (C := R_V) (T := F_V) (N := 4) hx hb ht in_V ft_V fo_V nm_V hown hK hP hD hS k h2 rfl 1 (by decide) (ht _ k_fl_V_15) (fun _ h9 => h9) rfl hin rfl (by decide +kernel) rfl rfl (Nat.le_of_ble_eq_true rfl) d_V_init_11 (fun H locs hP hD hS => ?_)
  have hP : va_P (xD G) CL (w1.set k (a, .inr (2, [.int r, .ref x, .null, .int 0]))) H := hP
  have hD : va_D A (w1.set k (a, .inr (2, [.int r, .ref x, .null, .int 0]))) := hD
  obtain ⟨w3, e_w3⟩ : ∃ zz : va_W, zz = w1.set k (a, .inr (2, [.int r, .ref x, .null, .int 0])) := ⟨_, rfl⟩
  rw [← e_w3] at hP hD
  have h4 : w3[k]? = some (a, .inr (2, [.int r, .ref x, .null, .int 0])) := by rw [e_w3]; exact w_eq h2
  refine lv_aload_n hx hb d_V_init_14 rfl (lv_at hl 0 rfl) ?_
  refine lv_aload_n hx hb d_V_init_15 rfl (lv_at hl 3 rfl) ?_
  refine va_putF (D := xD G) (ci := 2) (v := .ref y) (ty := .object "ConstraintCompiler$Sum") (C := R_V) (T := F_V) (N := 4) hx hb ht in_V ft_V fo_V nm_V hown hK hP hD hS k h4 rfl 2 (by decide) (ht _ k_fl_V_19) (fun _ h9 => h9) rfl hin rfl (by decide +kernel) rfl rfl (Nat.le_of_ble_eq_true rfl) d_V_init_16 (fun H locs hP hD hS => ?_)
  have hP : va_P (xD G) CL (w3.set k (a, .inr (2, [.int r, .ref x, .ref y, .int 0]))) H := hP
  have hD : va_D A (w3.set k (a, .inr (2, [.int r, .ref x, .ref y, .int 0]))) := hD
  obtain ⟨w5, e_w5⟩ : ∃ zz : va_W, zz = w3.set k (a, .inr (2, [.int r, .ref x, .ref y, .int 0])) := ⟨_, rfl⟩
  rw [← e_w5] at hP hD
  have h6 : w5[k]? = some (a, .inr (2, [.int r, .ref x, .ref y, .int 0])) := by rw [e_w5]; exact w_eq h4
  exact x_vret hx hb hr hlocks hS hP hD (Nat.le_of_ble_eq_true rfl) (Nat.le_of_ble_eq_true rfl) d_V_init_19 (by rw [e_w5, e_w3, e_w1]; simp)

set_option maxHeartbeats 4000000 in
set_option maxRecDepth 100000 in
theorem c_K_init (l : Launch) (G : xG) (A : Nat → Prop) (ws : va_W) (k a : Nat) (x y t : Nat) (h0 : ws[k]? = some (a, .inr (4, [.null, .null, .null]))) : Met l y_K_init (cw_K_init :: TW) { frames := 1, cells := 0, slots := 0, locals := 26 } (va_Pc [.ref a, .ref x, .ref y, .ref t] (x_P G A ws)) (qV G A (fun w9 => w9 = ws.set k (a, .inr (4, [.ref x, .ref y, .ref t])))) 0 0 A := by
  refine Met.ofW (cc := b_K_init) (maxL := 4) (ret := none) (by decide) rfl ?_
  intro p e s m args below meth c s₁ B hml hv
  obtain ⟨rfl, hE, hA, hP, hD⟩ := hv
  have hx := B.exec
  have hb := B.bytes
  have hr := B.returns
  have ht : ∀ w ∈ TW, w.before _ s = true := fun w h => atoms_spec (ws := cw_K_init :: TW) B.pre w (List.mem_cons_of_mem _ h)
  have hown : s.vm.findClass R_K = some m.cls := findClass_of_methodNamed B.named
  have hlocks := B.notSynchronized
  have hin : meth.name = "<init>" := (name_of_methodNamed B.named B.method).1
  have hK := hE.1
  have hS : va_S A s.heap s.heap [] := va_S.rf
  have hl := lv_entry ([.ref a, .ref x, .ref y, .ref t]) (n := 4) (Nat.le_of_ble_eq_true rfl)
  rw [lg_entry_eq]
  generalize (lg_sl ([.ref a, .ref x, .ref y, .ref t]) ++ List.replicate (4 - (lg_sl ([.ref a, .ref x, .ref y, .ref t])).length) Slot.unset).toArray = ls at hl ⊢
  have hl : lv_has ls 4 [(0, .ref a), (1, .ref x), (2, .ref y), (3, .ref t)] := hl
  refine lv_aload_n hx hb d_K_init_0 rfl (lv_at hl 0 rfl) ?_
  refine W.objInit hx hb hown (ht _ k_ml_K_1) (ht _ k_im_OJ_init) (ht _ k_code_OJ_init) rfl (by rw [hml]; exact hl.1) rfl d_K_init_1 (Nat.le_of_ble_eq_true rfl) (Nat.le_of_ble_eq_true rfl) ?_
  refine W.eq (g2 := F0 m 4 ls []) rfl ?_
  refine lv_aload_n hx hb d_K_init_4 rfl (lv_at hl 0 rfl) ?_
  refine lv_aload_n hx hb d_K_init_5 rfl (lv_at hl 1 rfl) ?_
  refine va_putF (D := xD G) (ci := 4) (v := .ref x) (ty := .object "ConstraintCompiler$Sum") (C := R_K) (T := F_K) (N := 3) hx hb ht in_K ft_K fo_K nm_K hown hK hP hD hS k h0 rfl 0 (by decide) (ht _ k_fl_K_7) (fun _ h9 => h9) rfl hin rfl (by decide +kernel) rfl rfl (Nat.le_of_ble_eq_true rfl) d_K_init_6 (fun H locs hP hD hS => ?_)
  have hP : va_P (xD G) CL (ws.set k (a, .inr (4, [.ref x, .null, .null]))) H := hP
  have hD : va_D A (ws.set k (a, .inr (4, [.ref x, .null, .null]))) := hD
  obtain ⟨w1, e_w1⟩ : ∃ zz : va_W, zz = ws.set k (a, .inr (4, [.ref x, .null, .null])) := ⟨_, rfl⟩
  rw [← e_w1] at hP hD
  have h2 : w1[k]? = some (a, .inr (4, [.ref x, .null, .null])) := by rw [e_w1]; exact w_eq h0
  refine lv_aload_n hx hb d_K_init_9 rfl (lv_at hl 0 rfl) ?_
  refine lv_aload_n hx hb d_K_init_10 rfl (lv_at hl 2 rfl) ?_
  refine va_putF (D := xD G) (ci := 4) (v := .ref y) (ty := .object "ConstraintCompiler$Sum") (C := R_K) (T := F_K) (N := 3) hx hb ht in_K ft_K fo_K nm_K hown hK hP hD hS k h2 rfl 1 (by decide) (ht _ k_fl_K_13) (fun _ h9 => h9) rfl hin rfl (by decide +kernel) rfl rfl (Nat.le_of_ble_eq_true rfl) d_K_init_11 (fun H locs hP hD hS => ?_)
  have hP : va_P (xD G) CL (w1.set k (a, .inr (4, [.ref x, .ref y, .null]))) H := hP
  have hD : va_D A (w1.set k (a, .inr (4, [.ref x, .ref y, .null]))) := hD
  obtain ⟨w3, e_w3⟩ : ∃ zz : va_W, zz = w1.set k (a, .inr (4, [.ref x, .ref y, .null])) := ⟨_, rfl⟩
  rw [← e_w3] at hP hD
  have h4 : w3[k]? = some (a, .inr (4, [.ref x, .ref y, .null])) := by rw [e_w3]; exact w_eq h2
  refine lv_aload_n hx hb d_K_init_14 rfl (lv_at hl 0 rfl) ?_
  refine lv_aload_n hx hb d_K_init_15 rfl (lv_at hl 3 rfl) ?_
  refine va_putF (D := xD G) (ci := 4) (v := .ref t) (ty := .object "ConstraintCompiler$Sum") (C := R_K) (T := F_K) (N := 3) hx hb ht in_K ft_K fo_K nm_K hown hK hP hD hS k h4 rfl 2 (by decide) (ht _ k_fl_K_16) (fun _ h9 => h9) rfl hin rfl (by decide +kernel) rfl rfl (Nat.le_of_ble_eq_true rfl) d_K_init_16 (fun H locs hP hD hS => ?_)
  have hP : va_P (xD G) CL (w3.set k (a, .inr (4, [.ref x, .ref y, .ref t]))) H := hP
  have hD : va_D A (w3.set k (a, .inr (4, [.ref x, .ref y, .ref t]))) := hD
  obtain ⟨w5, e_w5⟩ : ∃ zz : va_W, zz = w3.set k (a, .inr (4, [.ref x, .ref y, .ref t])) := ⟨_, rfl⟩
  rw [← e_w5] at hP hD
  have h6 : w5[k]? = some (a, .inr (4, [.ref x, .ref y, .ref t])) := by rw [e_w5]; exact w_eq h4
  exact x_vret hx hb hr hlocks hS hP hD (Nat.le_of_ble_eq_true rfl) (Nat.le_of_ble_eq_true rfl) d_K_init_19 (by rw [e_w5, e_w3, e_w1]; simp)

set_option maxHeartbeats 4000000 in
set_option maxRecDepth 100000 in
theorem c_E_init (l : Launch) (G : xG) (A : Nat → Prop) (ws : va_W) (k a : Nat) (x : Nat) (i : Int32) (h0 : ws[k]? = some (a, .inr (3, [.null, .int 0]))) : Met l y_E_init (cw_E_init :: TW) { frames := 1, cells := 0, slots := 0, locals := 26 } (va_Pc [.ref a, .ref x, .int i] (x_P G A ws)) (qV G A (fun w9 => w9 = ws.set k (a, .inr (3, [.ref x, .int i])))) 0 0 A := by
  refine Met.ofW (cc := b_E_init) (maxL := 3) (ret := none) (by decide) rfl ?_
  intro p e s m args below meth c s₁ B hml hv
  obtain ⟨rfl, hE, hA, hP, hD⟩ := hv
  have hx := B.exec
  have hb := B.bytes
  have hr := B.returns
  have ht : ∀ w ∈ TW, w.before _ s = true := fun w h => atoms_spec (ws := cw_E_init :: TW) B.pre w (List.mem_cons_of_mem _ h)
  have hown : s.vm.findClass R_E = some m.cls := findClass_of_methodNamed B.named
  have hlocks := B.notSynchronized
  have hin : meth.name = "<init>" := (name_of_methodNamed B.named B.method).1
  have hK := hE.1
  have hS : va_S A s.heap s.heap [] := va_S.rf
  have hl := lv_entry ([.ref a, .ref x, .int i]) (n := 3) (Nat.le_of_ble_eq_true rfl)
  rw [lg_entry_eq]
  generalize (lg_sl ([.ref a, .ref x, .int i]) ++ List.replicate (3 - (lg_sl ([.ref a, .ref x, .int i])).length) Slot.unset).toArray = ls at hl ⊢
  have hl : lv_has ls 3 [(0, .ref a), (1, .ref x), (2, .int i)] := hl
  refine lv_aload_n hx hb d_E_init_0 rfl (lv_at hl 0 rfl) ?_
  refine W.objInit hx hb hown (ht _ k_ml_E_1) (ht _ k_im_OJ_init) (ht _ k_code_OJ_init) rfl (by rw [hml]; exact hl.1) rfl d_E_init_1 (Nat.le_of_ble_eq_true rfl) (Nat.le_of_ble_eq_true rfl) ?_
  refine W.eq (g2 := F0 m 4 ls []) rfl ?_
  refine lv_aload_n hx hb d_E_init_4 rfl (lv_at hl 0 rfl) ?_
  refine lv_aload_n hx hb d_E_init_5 rfl (lv_at hl 1 rfl) ?_
  refine va_putF (D := xD G) (ci := 3) (v := .ref x) (ty := .object "ConstraintCompiler$Sum") (C := R_E) (T := F_E) (N := 2) hx hb ht in_E ft_E fo_E nm_E hown hK hP hD hS k h0 rfl 0 (by decide) (ht _ k_fl_E_7) (fun _ h9 => h9) rfl hin rfl (by decide +kernel) rfl rfl (Nat.le_of_ble_eq_true rfl) d_E_init_6 (fun H locs hP hD hS => ?_)
  have hP : va_P (xD G) CL (ws.set k (a, .inr (3, [.ref x, .int 0]))) H := hP
  have hD : va_D A (ws.set k (a, .inr (3, [.ref x, .int 0]))) := hD
  obtain ⟨w1, e_w1⟩ : ∃ zz : va_W, zz = ws.set k (a, .inr (3, [.ref x, .int 0])) := ⟨_, rfl⟩
  rw [← e_w1] at hP hD
  have h2 : w1[k]? = some (a, .inr (3, [.ref x, .int 0])) := by rw [e_w1]; exact w_eq h0
  refine lv_aload_n hx hb d_E_init_9 rfl (lv_at hl 0 rfl) ?_
  refine lv_iload_n hx hb d_E_init_10 rfl (lv_at hl 2 rfl) ?_
  refine va_putF (D := xD G) (ci := 3) (v := .int i) (ty := .int) (C := R_E) (T := F_E) (N := 2) hx hb ht in_E ft_E fo_E nm_E hown hK hP hD hS k h2 rfl 1 (by decide) (ht _ k_fl_E_13) (fun _ h9 => h9) rfl hin rfl (by decide +kernel) rfl rfl (Nat.le_of_ble_eq_true rfl) d_E_init_11 (fun H locs hP hD hS => ?_)
  have hP : va_P (xD G) CL (w1.set k (a, .inr (3, [.ref x, .int i]))) H := hP
  have hD : va_D A (w1.set k (a, .inr (3, [.ref x, .int i]))) := hD
  obtain ⟨w3, e_w3⟩ : ∃ zz : va_W, zz = w1.set k (a, .inr (3, [.ref x, .int i])) := ⟨_, rfl⟩
  rw [← e_w3] at hP hD
  have h4 : w3[k]? = some (a, .inr (3, [.ref x, .int i])) := by rw [e_w3]; exact w_eq h2
  exact x_vret hx hb hr hlocks hS hP hD (Nat.le_of_ble_eq_true rfl) (Nat.le_of_ble_eq_true rfl) d_E_init_14 (by rw [e_w3, e_w1]; simp)

set_option maxHeartbeats 4000000 in
set_option maxRecDepth 100000 in
theorem c_isInput (l : Launch) (G : xG) (A : Nat → Prop) (ws : va_W) (k a : Nat) (x : Value) (i : Nat) (hi : i < 60) (h0 : ws[k]? = some (a, .inr (3, [x, .int (nI i)]))) : Met l y_E_isInput (cw_E_isInput :: TW) { frames := 1, cells := 0, slots := 0, locals := 26 } (va_Pc [.ref a] (x_P G A ws)) (qI G A (fun r w9 => ws = w9 ∧ ((r = nI 1 ∧ i ≠ 0) ∨ (r = nI 0 ∧ i = 0)))) 0 0 A := by
  refine Met.ofW (cc := b_E_isInput) (maxL := 1) (ret := (some .boolean)) (by decide) rfl ?_
  intro p e s m args below meth c s₁ B hml hv
  obtain ⟨rfl, hE, hA, hP, hD⟩ := hv
  have hx := B.exec
  have hb := B.bytes
  have hr := B.returns
  have ht : ∀ w ∈ TW, w.before _ s = true := fun w h => atoms_spec (ws := cw_E_isInput :: TW) B.pre w (List.mem_cons_of_mem _ h)
  have hown : s.vm.findClass R_E = some m.cls := findClass_of_methodNamed B.named
  have hlocks := B.notSynchronized
  have hK := hE.1
  have hS : va_S A s.heap s.heap [] := va_S.rf
  have hl := lv_entry ([.ref a]) (n := 1) (Nat.le_of_ble_eq_true rfl)
  rw [lg_entry_eq]
  generalize (lg_sl ([.ref a]) ++ List.replicate (1 - (lg_sl ([.ref a])).length) Slot.unset).toArray = ls at hl ⊢
  have hl : lv_has ls 1 [(0, .ref a)] := hl
  refine lv_aload_n hx hb d_E_isInput_0 rfl (lv_at hl 0 rfl) ?_
  refine va_get (D := xD G) (ci := 3) (C := R_E) (T := F_E) (N := 2) hx hb ht in_E hown hK hP k h0 rfl 1 (by decide) (ht _ k_fl_E_13) (fun _ h9 => h9) rfl d_E_isInput_1 ?_
  refine x_if_eq hx hb i rfl (by omega) (tgt := 11) d_E_isInput_4 (by decide) (fun c1 => ?_) (fun c1 => ?_)
  · refine lv_iconst (v := (nI 0)) hx hb d_E_isInput_11 (by decide) ?_
    exact x_zret hx hb hr hlocks hS hP hD (Nat.le_of_ble_eq_true rfl) (Nat.le_of_ble_eq_true rfl) d_E_isInput_12 rfl (⟨rfl, Or.inr ⟨rfl, c1⟩⟩)
  · refine lv_iconst (v := (nI 1)) hx hb d_E_isInput_7 (by decide) ?_
    refine lv_goto (tgt := 12) hx hb d_E_isInput_8 (by decide) ?_
    exact x_zret hx hb hr hlocks hS hP hD (Nat.le_of_ble_eq_true rfl) (Nat.le_of_ble_eq_true rfl) d_E_isInput_12 rfl (⟨rfl, Or.inl ⟨rfl, c1⟩⟩)

set_option maxHeartbeats 4000000 in
set_option maxRecDepth 100000 in
theorem c_addV (l : Launch) (G : xG) (A : Nat → Prop) (ws : va_W) (o z u lv le lk : Nat) (V : List VV) (E : List EE) (K : List KK) (inp : Nat) (w d : Nat → Nat) (wV wC : Nat) (hR : CCs G ws o z u lv le lk V E K inp w d wV wC) (bV : V.length ≤ 60) (r la ra : Nat) (f g : Nat → Nat) (hf : isS G ws la f) (hg : isS G ws ra g) : Met l y_C_addVariable (cw_C_addVariable :: TW) { frames := 8, cells := 2, slots := 154, locals := 208 } (va_Pc [.ref o, .int (nI r), .ref la, .ref ra] (x_P G A ws)) (qI G A (fun q w9 => q = nI V.length ∧ CCs G w9 o z u lv le lk (V ++ [(r, f, g, 0)]) E K inp w d wV wC ∧ kp ws w9)) 2 154 A := by
  refine Met.ofW (cc := b_C_addVariable) (maxL := 4) (ret := (some .int)) (by decide) rfl ?_
  intro p e s m args below meth c s₁ B hml hv
  obtain ⟨rfl, hE, hA, hP, hD⟩ := hv
  have hx := B.exec
  have hb := B.bytes
  have hr := B.returns
  have ht : ∀ w ∈ TW, w.before _ s = true := fun w h => atoms_spec (ws := cw_C_addVariable :: TW) B.pre w (List.mem_cons_of_mem _ h)
  have hown : s.vm.findClass R_C = some m.cls := findClass_of_methodNamed B.named
  have hlocks := B.notSynchronized
  have hK := hE.1
  have hS : va_S A s.heap s.heap [] := va_S.rf
  have hl := lv_entry ([.ref o, .int (nI r), .ref la, .ref ra]) (n := 4) (Nat.le_of_ble_eq_true rfl)
  rw [lg_entry_eq]
  generalize (lg_sl ([.ref o, .int (nI r), .ref la, .ref ra]) ++ List.replicate (4 - (lg_sl ([.ref o, .int (nI r), .ref la, .ref ra])).length) Slot.unset).toArray = ls at hl ⊢
  have hl : lv_has ls 4 [(0, .ref o), (1, .int (nI r)), (2, .ref la), (3, .ref ra)] := hl
  obtain ⟨wa, da, kV, kE, kK, gV, gE, gK, hX⟩ := id hR
  obtain ⟨x1, x2, x3, x4, x5, x6, x7, x8, x9, x10, x11, x12, x13⟩ := id hX
  obtain ⟨mo_v, ae_v, li_v, -⟩ := id x4
  obtain ⟨mo_e, ae_e, li_e, -⟩ := id x5
  obtain ⟨mo_k, ae_k, li_k, -⟩ := id x6
  refine lv_aload_n hx hb d_C_addVariable_0 rfl (lv_at hl 0 rfl) ?_
  refine va_get (D := xD G) (ci := 0) (C := R_C) (T := F_C) (N := 10) hx hb ht in_C hown hK hP 0 x1 rfl 2 (by decide) (ht _ k_fl_C_26) (fun _ h9 => h9) rfl d_C_addVariable_1 ?_
  refine va_new (ci := 2) (fs := [.int 0, .null, .null, .int 0]) (C := R_V) (T := F_V) (N := 4) hx hb ht in_V ft_V fo_V hown (ht _ k_cl_C_43) (ht _ k_new_V) (ht _ k_in_V) hK hP hD hS hA rfl (fun j hj => by rcases (show j = 0 ∨ j = 1 ∨ j = 2 ∨ j = 3 by omega) with rfl | rfl | rfl | rfl <;> rfl) (Nat.le_of_ble_eq_true rfl) (Nat.le_of_ble_eq_true rfl) d_C_addVariable_4 (fun a H hP hD hS => ?_)
  refine W.widen (k := 1) (n := 4) (Nat.le_of_ble_eq_true rfl) (Nat.le_of_ble_eq_true rfl) ?_
  have hP : va_P (xD G) CL (ws ++ [(a, .inr (2, [.int 0, .null, .null, .int 0]))]) H := hP
  have hD : va_D A (ws ++ [(a, .inr (2, [.int 0, .null, .null, .int 0]))]) := hD
  obtain ⟨w1, e_w1⟩ : ∃ zz : va_W, zz = ws ++ [(a, .inr (2, [.int 0, .null, .null, .int 0]))] := ⟨_, rfl⟩
  rw [← e_w1] at hP hD
  have h2 : w1[0]? = some (o, .inr (0, [.ref z, .ref u, .ref lv, .ref le, .ref lk, .int (nI inp), .ref wa, .ref da, .int (nI wV), .int (nI wC)])) := by rw [e_w1]; exact w_app x1
  have h3 : w1[5]? = some (lv, .inr (6, [.int mo_v, .ref ae_v, .int (nI V.length)])) := by rw [e_w1]; exact w_app li_v
  have h4 : w1[6]? = some (le, .inr (6, [.int mo_e, .ref ae_e, .int (nI E.length)])) := by rw [e_w1]; exact w_app li_e
  have h5 : w1[7]? = some (lk, .inr (6, [.int mo_k, .ref ae_k, .int (nI K.length)])) := by rw [e_w1]; exact w_app li_k
  have h6 : w1[ws.length]? = some (a, .inr (2, [.int 0, .null, .null, .int 0])) := by rw [e_w1]; exact w_new0
  refine lv_dup hx hb d_C_addVariable_7 rfl ?_
  refine lv_iload_n hx hb d_C_addVariable_8 rfl (lv_at hl 1 rfl) ?_
  refine lv_aload_n hx hb d_C_addVariable_9 rfl (lv_at hl 2 rfl) ?_
  refine lv_aload_n hx hb d_C_addVariable_10 rfl (lv_at hl 3 rfl) ?_
  refine x_callv (va_runI (As := [.int (nI r), .ref la, .ref ra]) (rest := [.ref a, .ref lv]) ⟨hx, hb, hml, hown, ht⟩ (c_V_init l G A w1 ws.length a (nI r) la ra h6) (cwI 3 ht (TW_good k_code_V_init) rfl rfl rfl (ht _ k_in_V) (ht _ k_ml_C_45) (ht _ k_im_V_init) rfl hv_V_init.2 ⟨Nat.le_of_ble_eq_true rfl, Nat.le_of_ble_eq_true rfl⟩) ⟨x_blind, x_pre hE hA hS hP hD⟩ rfl rfl hl.1 rfl (lv_room (Nat.le_of_ble_eq_true rfl)) d_C_addVariable_11 ⟨Nat.le_of_ble_eq_true rfl, Nat.le_of_ble_eq_true rfl⟩) hS (fun w8 H locs q7 hP hD hS => ?_)
  have hw2 : w8 = ws ++ [(a, .inr (2, [.int (nI r), .ref la, .ref ra, .int 0]))] := by rw [q7, e_w1]; simp
  subst hw2
  have hX2 := hX.app (n := [(a, .inr (2, [.int (nI r), .ref la, .ref ra, .int 0]))])
  have g5 := w_app (n := [(a, .inr (2, [.int (nI r), .ref la, .ref ra, .int 0]))]) li_v
  have hn2 : ∀ i, i < V.length → gV i ≠ a := fun i hi e => by obtain ⟨y, hy⟩ := V_get hi; obtain ⟨k9, la9, ra9, e1, -⟩ := x7 i y hy; have h8 := hD.1 k9 ws.length _ _ (w_app e1) w_new0 e; have h9 := w_lt e1; omega
  refine x_calli (va_runV (As := [.ref a]) (rest := []) ⟨hx, hb, hml, hown, ht⟩ (c_add l G A (ws ++ [(a, .inr (2, [.int (nI r), .ref la, .ref ra, .int 0]))]) 5 kV lv V.length a gV (x4.app) (by omega) (fun j hj => by obtain ⟨y, hy⟩ := V_get hj; exact ((x7 j y hy).kp kp.app).O) ⟨ws.length, 2, _, w_new0, Or.inl rfl⟩) (cwV 1 ht (TW_V k_ml_C_48 k_im_A_add1 k_se_A_add1 k_in_A k_code_A_add1) rfl rfl rfl hv_A_add1 ⟨Nat.le_of_ble_eq_true rfl, Nat.le_of_ble_eq_true rfl⟩) ⟨x_blind, va_recv hK hP rfl g5, x_pre hE hA hS hP hD⟩ rfl rfl hl.1 rfl (lv_room (Nat.le_of_ble_eq_true rfl)) d_C_addVariable_14 ⟨Nat.le_of_ble_eq_true rfl, Nat.le_of_ble_eq_true rfl⟩) hS (fun r11 w10 H locs q9 hP hD hS => ?_)
  refine W.widen (k := 2) (n := 154) (Nat.le_of_ble_eq_true rfl) (Nat.le_of_ble_eq_true rfl) ?_
  obtain ⟨ka', e1, e2, e3, e4⟩ := q9
  have kk := keep2.kp (x4.app) e2
  have q0 : (ws ++ [(a, .inr (2, [.int (nI r), .ref la, .ref ra, .int 0]))])[ws.length]? = some (a, .inr (2, [.int (nI r), .ref la, .ref ra, .int (nI 0)])) := by rw [nI_0]; exact w_new0
  have nx : isV G w10 a (r, f, g, 0) := ⟨ws.length, la, ra, kk _ _ _ q0 (hard_o (Or.inr (Or.inl rfl))), (hf.kp kp.app).kp kk, (hg.kp kp.app).kp kk⟩
  have hX3 := CCx.addV (x := (r, f, g, 0)) hX2 e1 e2 e3 nx hn2
  obtain ⟨mo9, ea9, li9, -⟩ := id e1
  refine lv_pop hx hb d_C_addVariable_17 rfl ?_
  refine lv_aload_n hx hb d_C_addVariable_18 rfl (lv_at hl 0 rfl) ?_
  refine va_get (D := xD G) (ci := 0) (C := R_C) (T := F_C) (N := 10) hx hb ht in_C hown hK hP 0 hX3.1 rfl 2 (by decide) (ht _ k_fl_C_26) (fun _ h9 => h9) rfl d_C_addVariable_19 ?_
  refine x_calli (va_runV (As := []) (rest := []) ⟨hx, hb, hml, hown, ht⟩ (c_A_size l G A w10 5 ka' lv (V.length + 1) (va_up gV V.length a) e1) (cwV 0 ht (TW_V k_ml_C_78 k_im_A_size k_se_A_size k_in_A k_code_A_size) rfl rfl rfl hv_A_size ⟨Nat.le_of_ble_eq_true rfl, Nat.le_of_ble_eq_true rfl⟩) ⟨x_blind, va_recv hK hP rfl li9, x_pre hE hA hS hP hD⟩ rfl rfl hl.1 rfl (lv_room (Nat.le_of_ble_eq_true rfl)) d_C_addVariable_22 ⟨Nat.le_of_ble_eq_true rfl, Nat.le_of_ble_eq_true rfl⟩) hS (fun r14 w13 H locs q12 hP hD hS => ?_)
  obtain ⟨rfl, rfl⟩ := q12
  refine lv_iconst (v := (nI 1)) hx hb d_C_addVariable_25 (by decide) ?_
  refine lv_isub hx hb d_C_addVariable_26 ?_
  refine x_top (nI ((V.length + 1) - 1)) (pk_sub (by omega)) ?_
  exact x_iret hx hb hr hlocks hS hP hD (Nat.le_of_ble_eq_true rfl) (Nat.le_of_ble_eq_true rfl) d_C_addVariable_27 (⟨by rw [Nat.add_sub_cancel], ⟨_, _, _, _, _, _, _, _, hX3⟩, kp.tr kp.app kk⟩)

set_option maxHeartbeats 4000000 in
set_option maxRecDepth 100000 in
theorem c_addK (l : Launch) (G : xG) (A : Nat → Prop) (ws : va_W) (o z u lv le lk : Nat) (V : List VV) (E : List EE) (K : List KK) (inp : Nat) (w d : Nat → Nat) (wV wC : Nat) (hR : CCs G ws o z u lv le lk V E K inp w d wV wC) (bK : K.length ≤ 80) (xa ya za : Nat) (f g h : Nat → Nat) (hf : isS G ws xa f) (hg : isS G ws ya g) (hh : isS G ws za h) : Met l y_C_addConstraint (cw_C_addConstraint :: TW) { frames := 8, cells := 2, slots := 153, locals := 208 } (va_Pc [.ref o, .ref xa, .ref ya, .ref za] (x_P G A ws)) (qV G A (fun w9 => CCs G w9 o z u lv le lk V E (K ++ [(f, g, h)]) inp w d wV wC ∧ kp ws w9)) 2 153 A := by
  refine Met.ofW (cc := b_C_addConstraint) (maxL := 4) (ret := none) (by decide) rfl ?_
  intro p e s m args below meth c s₁ B hml hv
  obtain ⟨rfl, hE, hA, hP, hD⟩ := hv
  have hx := B.exec
  have hb := B.bytes
  have hr := B.returns
  have ht : ∀ w ∈ TW, w.before _ s = true := fun w h => atoms_spec (ws := cw_C_addConstraint :: TW) B.pre w (List.mem_cons_of_mem _ h)
  have hown : s.vm.findClass R_C = some m.cls := findClass_of_methodNamed B.named
  have hlocks := B.notSynchronized
  have hK := hE.1
  have hS : va_S A s.heap s.heap [] := va_S.rf
  have hl := lv_entry ([.ref o, .ref xa, .ref ya, .ref za]) (n := 4) (Nat.le_of_ble_eq_true rfl)
  rw [lg_entry_eq]
  generalize (lg_sl ([.ref o, .ref xa, .ref ya, .ref za]) ++ List.replicate (4 - (lg_sl ([.ref o, .ref xa, .ref ya, .ref za])).length) Slot.unset).toArray = ls at hl ⊢
  have hl : lv_has ls 4 [(0, .ref o), (1, .ref xa), (2, .ref ya), (3, .ref za)] := hl
  obtain ⟨wa, da, kV, kE, kK, gV, gE, gK, hX⟩ := id hR
  obtain ⟨x1, x2, x3, x4, x5, x6, x7, x8, x9, x10, x11, x12, x13⟩ := id hX
  obtain ⟨mo_v, ae_v, li_v, -⟩ := id x4
  obtain ⟨mo_e, ae_e, li_e, -⟩ := id x5
  obtain ⟨mo_k, ae_k, li_k, -⟩ := id x6
  refine lv_aload_n hx hb d_C_addConstraint_0 rfl (lv_at hl 0 rfl) ?_
  refine va_get (D := xD G) (ci := 0) (C := R_C) (T := F_C) (N := 10) hx hb ht in_C hown hK hP 0 x1 rfl 4 (by decide) (ht _ k_fl_C_33) (fun _ h9 => h9) rfl d_C_addConstraint_1 ?_
  refine va_new (ci := 4) (fs := [.null, .null, .null]) (C := R_K) (T := F_K) (N := 3) hx hb ht in_K ft_K fo_K hown (ht _ k_cl_C_151) (ht _ k_new_K) (ht _ k_in_K) hK hP hD hS hA rfl (fun j hj => by rcases (show j = 0 ∨ j = 1 ∨ j = 2 by omega) with rfl | rfl | rfl <;> rfl) (Nat.le_of_ble_eq_true rfl) (Nat.le_of_ble_eq_true rfl) d_C_addConstraint_4 (fun a H hP hD hS => ?_)
  refine W.widen (k := 1) (n := 3) (Nat.le_of_ble_eq_true rfl) (Nat.le_of_ble_eq_true rfl) ?_
  have hP : va_P (xD G) CL (ws ++ [(a, .inr (4, [.null, .null, .null]))]) H := hP
  have hD : va_D A (ws ++ [(a, .inr (4, [.null, .null, .null]))]) := hD
  obtain ⟨w1, e_w1⟩ : ∃ zz : va_W, zz = ws ++ [(a, .inr (4, [.null, .null, .null]))] := ⟨_, rfl⟩
  rw [← e_w1] at hP hD
  have h2 : w1[0]? = some (o, .inr (0, [.ref z, .ref u, .ref lv, .ref le, .ref lk, .int (nI inp), .ref wa, .ref da, .int (nI wV), .int (nI wC)])) := by rw [e_w1]; exact w_app x1
  have h3 : w1[5]? = some (lv, .inr (6, [.int mo_v, .ref ae_v, .int (nI V.length)])) := by rw [e_w1]; exact w_app li_v
  have h4 : w1[6]? = some (le, .inr (6, [.int mo_e, .ref ae_e, .int (nI E.length)])) := by rw [e_w1]; exact w_app li_e
  have h5 : w1[7]? = some (lk, .inr (6, [.int mo_k, .ref ae_k, .int (nI K.length)])) := by rw [e_w1]; exact w_app li_k
  have h6 : w1[ws.length]? = some (a, .inr (4, [.null, .null, .null])) := by rw [e_w1]; exact w_new0
  refine lv_dup hx hb d_C_addConstraint_7 rfl ?_
  refine lv_aload_n hx hb d_C_addConstraint_8 rfl (lv_at hl 1 rfl) ?_
  refine lv_aload_n hx hb d_C_addConstraint_9 rfl (lv_at hl 2 rfl) ?_
  refine lv_aload_n hx hb d_C_addConstraint_10 rfl (lv_at hl 3 rfl) ?_
  refine x_callv (va_runI (As := [.ref xa, .ref ya, .ref za]) (rest := [.ref a, .ref lk]) ⟨hx, hb, hml, hown, ht⟩ (c_K_init l G A w1 ws.length a xa ya za h6) (cwI 3 ht (TW_good k_code_K_init) rfl rfl rfl (ht _ k_in_K) (ht _ k_ml_C_222) (ht _ k_im_K_init) rfl hv_K_init.2 ⟨Nat.le_of_ble_eq_true rfl, Nat.le_of_ble_eq_true rfl⟩) ⟨x_blind, x_pre hE hA hS hP hD⟩ rfl rfl hl.1 rfl (lv_room (Nat.le_of_ble_eq_true rfl)) d_C_addConstraint_11 ⟨Nat.le_of_ble_eq_true rfl, Nat.le_of_ble_eq_true rfl⟩) hS (fun w8 H locs q7 hP hD hS => ?_)
  have hw2 : w8 = ws ++ [(a, .inr (4, [.ref xa, .ref ya, .ref za]))] := by rw [q7, e_w1]; simp
  subst hw2
  have hX2 := hX.app (n := [(a, .inr (4, [.ref xa, .ref ya, .ref za]))])
  have g5 := w_app (n := [(a, .inr (4, [.ref xa, .ref ya, .ref za]))]) li_k
  have hn2 : ∀ i, i < K.length → gK i ≠ a := fun i hi e => by obtain ⟨y, hy⟩ := V_get hi; obtain ⟨k9, xa9, ya9, za9, e1, -⟩ := x9 i y hy; have h8 := hD.1 k9 ws.length _ _ (w_app e1) w_new0 e; have h9 := w_lt e1; omega
  refine x_calli (va_runV (As := [.ref a]) (rest := []) ⟨hx, hb, hml, hown, ht⟩ (c_add l G A (ws ++ [(a, .inr (4, [.ref xa, .ref ya, .ref za]))]) 7 kK lk K.length a gK (x6.app) (by omega) (fun j hj => by obtain ⟨y, hy⟩ := V_get hj; exact ((x9 j y hy).kp kp.app).O) ⟨ws.length, 4, _, w_new0, Or.inr (Or.inr rfl)⟩) (cwV 1 ht (TW_V k_ml_C_48 k_im_A_add1 k_se_A_add1 k_in_A k_code_A_add1) rfl rfl rfl hv_A_add1 ⟨Nat.le_of_ble_eq_true rfl, Nat.le_of_ble_eq_true rfl⟩) ⟨x_blind, va_recv hK hP rfl g5, x_pre hE hA hS hP hD⟩ rfl rfl hl.1 rfl (lv_room (Nat.le_of_ble_eq_true rfl)) d_C_addConstraint_14 ⟨Nat.le_of_ble_eq_true rfl, Nat.le_of_ble_eq_true rfl⟩) hS (fun r11 w10 H locs q9 hP hD hS => ?_)
  refine W.widen (k := 2) (n := 153) (Nat.le_of_ble_eq_true rfl) (Nat.le_of_ble_eq_true rfl) ?_
  obtain ⟨ka', e1, e2, e3, e4⟩ := q9
  have kk := keep2.kp (x6.app) e2
  have nx : isC G w10 a (f, g, h) := ⟨ws.length, xa, ya, za, kk _ _ _ w_new0 (hard_o (Or.inr (Or.inr (Or.inr rfl)))), (hf.kp kp.app).kp kk, (hg.kp kp.app).kp kk, (hh.kp kp.app).kp kk⟩
  have hX3 := CCx.addK (x := (f, g, h)) hX2 e1 e2 e3 nx hn2
  refine lv_pop hx hb d_C_addConstraint_17 rfl ?_
  exact x_vret hx hb hr hlocks hS hP hD (Nat.le_of_ble_eq_true rfl) (Nat.le_of_ble_eq_true rfl) d_C_addConstraint_18 (⟨⟨_, _, _, _, _, _, _, _, hX3⟩, kp.tr kp.app kk⟩)

set_option maxHeartbeats 4000000 in
set_option maxRecDepth 100000 in
theorem c_mcp (l : Launch) (G : xG) (A : Nat → Prop) (ws : va_W) (o z u lv le lk : Nat) (V : List VV) (E : List EE) (K : List KK) (inp : Nat) (w d : Nat → Nat) (wV wC : Nat) (hR : CCs G ws o z u lv le lk V E K inp w d wV wC) (bV : V.length < 60) (bK : K.length < 80) (la ra : Nat) (f g : Nat → Nat) (hf : isS G ws la f) (hg : isS G ws ra g) : Met l y_C_makeConstrainedProduct (cw_C_makeConstrainedProduct :: TW) { frames := 9, cells := 6, slots := 368, locals := 234 } (va_Pc [.ref o, .ref la, .ref ra] (x_P G A ws)) (qR G A (fun r w9 => isS G w9 r (unit V.length) ∧ CCs G w9 o z u lv le lk (V ++ [(2, f, g, 0)]) E (K ++ [(f, g, unit V.length)]) inp w d wV wC ∧ kp ws w9)) 6 368 A := by
  refine Met.ofW (cc := b_C_makeConstrainedProduct) (maxL := 4) (ret := (some (.object "ConstraintCompiler$Sum"))) (by decide) rfl ?_
  intro p e s m args below meth c s₁ B hml hv
  obtain ⟨rfl, hE, hA, hP, hD⟩ := hv
  have hx := B.exec
  have hb := B.bytes
  have hr := B.returns
  have ht : ∀ w ∈ TW, w.before _ s = true := fun w h => atoms_spec (ws := cw_C_makeConstrainedProduct :: TW) B.pre w (List.mem_cons_of_mem _ h)
  have hown : s.vm.findClass R_C = some m.cls := findClass_of_methodNamed B.named
  have hlocks := B.notSynchronized
  have hK := hE.1
  have hS : va_S A s.heap s.heap [] := va_S.rf
  have hl := lv_entry ([.ref o, .ref la, .ref ra]) (n := 4) (Nat.le_of_ble_eq_true rfl)
  rw [lg_entry_eq]
  generalize (lg_sl ([.ref o, .ref la, .ref ra]) ++ List.replicate (4 - (lg_sl ([.ref o, .ref la, .ref ra])).length) Slot.unset).toArray = ls at hl ⊢
  have hl : lv_has ls 4 [(0, .ref o), (1, .ref la), (2, .ref ra)] := hl
  obtain ⟨wa, da, kV, kE, kK, gV, gE, gK, hX⟩ := id hR
  obtain ⟨x1, x2, x3, x4, x5, x6, x7, x8, x9, x10, x11, x12, x13⟩ := id hX
  refine lv_aload_n hx hb d_C_makeConstrainedProduct_0 rfl (lv_at hl 0 rfl) ?_
  refine lv_iconst (v := (nI 2)) hx hb d_C_makeConstrainedProduct_1 (by decide) ?_
  refine lv_aload_n hx hb d_C_makeConstrainedProduct_2 rfl (lv_at hl 1 rfl) ?_
  refine lv_aload_n hx hb d_C_makeConstrainedProduct_3 rfl (lv_at hl 2 rfl) ?_
  refine x_calli (va_runV (As := [.int (nI 2), .ref la, .ref ra]) (rest := []) ⟨hx, hb, hml, hown, ht⟩ (c_addV l G A ws o z u lv le lk V E K inp w d wV wC hR (by omega) 2 la ra f g hf hg) (cwV 3 ht (TW_V k_ml_C_195 k_im_C_addVariable k_se_C_addVariable k_in_C k_code_C_addVariable) rfl rfl rfl hv_C_addVariable ⟨Nat.le_of_ble_eq_true rfl, Nat.le_of_ble_eq_true rfl⟩) ⟨x_blind, va_recv hK hP rfl x1, x_pre hE hA hS hP hD⟩ rfl rfl hl.1 rfl (lv_room (Nat.le_of_ble_eq_true rfl)) d_C_makeConstrainedProduct_4 ⟨Nat.le_of_ble_eq_true rfl, Nat.le_of_ble_eq_true rfl⟩) hS (fun r3 w2 H locs q1 hP hD hS => ?_)
  refine W.widen (k := 2) (n := 154) (Nat.le_of_ble_eq_true rfl) (Nat.le_of_ble_eq_true rfl) ?_
  obtain ⟨rfl, hR1, kk1⟩ := q1
  refine x_callr (va_runS (As := [.int (nI V.length)]) (rest := []) ⟨hx, hb, hml, hown, ht⟩ (c_S_of l G A w2 V.length bV) (va_cwS 1 ht (TW_S k_ml_C_16 k_st_S_ofVariable k_in_S k_code_S_ofVariable) rfl rfl rfl hv_S_ofVariable.2 ⟨Nat.le_of_ble_eq_true rfl, Nat.le_of_ble_eq_true rfl⟩) ⟨x_blind, x_pre hE hA hS hP hD⟩ rfl rfl hl.1 rfl (lv_room (Nat.le_of_ble_eq_true rfl)) d_C_makeConstrainedProduct_7 ⟨Nat.le_of_ble_eq_true rfl, Nat.le_of_ble_eq_true rfl⟩) hS (fun r6 w5 H locs q4 hP hD hS => ?_)
  refine W.widen (k := 4) (n := 215) (Nat.le_of_ble_eq_true rfl) (Nat.le_of_ble_eq_true rfl) ?_
  obtain ⟨hR2, kk2, iS⟩ := mkS_CC hR1 q4 (fun j _ => unit_lt _ j)
  obtain ⟨wa2, da2, kV2, kE2, kK2, gV2, gE2, gK2, hX2⟩ := id hR2
  refine lv_astore_n (lv' := [(3, .ref r6), (0, .ref o), (1, .ref la), (2, .ref ra)]) hx hb d_C_makeConstrainedProduct_10 rfl hl (by decide) rfl (fun ls hl => ?_)
  refine lv_aload_n hx hb d_C_makeConstrainedProduct_11 rfl (lv_at hl 1 rfl) ?_
  refine lv_aload_n hx hb d_C_makeConstrainedProduct_12 rfl (lv_at hl 2 rfl) ?_
  refine lv_aload_n hx hb d_C_makeConstrainedProduct_13 rfl (lv_at hl 3 rfl) ?_
  refine lv_aload_n hx hb d_C_makeConstrainedProduct_14 rfl (lv_at hl 0 rfl) ?_
  refine x_callv (va_runV (As := [.ref la, .ref ra, .ref r6]) (rest := []) ⟨hx, hb, hml, hown, ht⟩ (c_addK l G A w5 o z u lv le lk _ E K inp w d wV wC hR2 (by omega) la ra r6 f g (unit V.length) (hf.kp (kk1.tr kk2)) (hg.kp (kk1.tr kk2)) iS) (cwV 3 ht (TW_V k_ml_C_90 k_im_C_addConstraint k_se_C_addConstraint k_in_C k_code_C_addConstraint) rfl rfl rfl hv_C_addConstraint ⟨Nat.le_of_ble_eq_true rfl, Nat.le_of_ble_eq_true rfl⟩) ⟨x_blind, va_recv hK hP rfl hX2.1, x_pre hE hA hS hP hD⟩ rfl rfl hl.1 rfl (lv_room (Nat.le_of_ble_eq_true rfl)) d_C_makeConstrainedProduct_15 ⟨Nat.le_of_ble_eq_true rfl, Nat.le_of_ble_eq_true rfl⟩) hS (fun w8 H locs q7 hP hD hS => ?_)
  refine W.widen (k := 6) (n := 368) (Nat.le_of_ble_eq_true rfl) (Nat.le_of_ble_eq_true rfl) ?_
  obtain ⟨hR3, kk3⟩ := q7
  refine lv_aload_n hx hb d_C_makeConstrainedProduct_18 rfl (lv_at hl 0 rfl) ?_
  exact x_aret hx hb hr (Or.inl ⟨_, rfl⟩) hlocks hS hP hD (Nat.le_of_ble_eq_true rfl) (Nat.le_of_ble_eq_true rfl) d_C_makeConstrainedProduct_19 (⟨iS.kp kk3, hR3, (kk1.tr kk2).tr kk3⟩)
