/-! lists -/
/-- a list at place kl, its row at place ka (none while it is the empty one), n elements, their addresses g -/
def isL (G : xG) (ws : va_W) (kl : Nat) (ka : Option Nat) (al n : Nat) (g : Nat → Nat) : Prop :=
  ∃ (mo : Int32) (ea : Nat), ws[kl]? = some (al, .inr (6, [.int mo, .ref ea, .int (nI n)])) ∧ ((ka = none ∧ n = 0 ∧ ea = xZ G) ∨ ∃ (k cap : Nat) (f : Nat → Option Nat), ka = some k ∧ ws[k]? = some (ea, aO G cap f) ∧ n ≤ cap ∧ 0 < cap ∧ cap ≤ 150 ∧ ∀ j, j < n → f j = some (g j))
/-- an object that may stand in a list -/
def isO (ws : va_W) (a : Nat) : Prop := ∃ (k ci : Nat) (fs : List Value), ws[k]? = some (a, .inr (ci, fs)) ∧ (ci = 2 ∨ ci = 3 ∨ ci = 4)
theorem isO.any {G : xG} {A : Nat → Prop} {ws : va_W} {a : Nat} {s : State} {H H1 : Heap} (hE : x_E G A s H1) (hP : va_P (xD G) CL ws H) (h : isO ws a) : va_Any "java/lang/Object" s H a := by
  obtain ⟨k, ci, fs, h1, h2⟩ := h
  have hK := hE.1
  have hN := hE.2.2.2.2.2.2.2
  rcases h2 with rfl | rfl | rfl
  · exact va_rAny hK hP h1 rfl (fun comp c0 e1 e2 => vb_asgC (C := R_V) (E := R_OJ) (hN _ k_ca_V_OJ) comp c0 e1 e2)
  · exact va_rAny hK hP h1 rfl (fun comp c0 e1 e2 => vb_asgC (C := R_E) (E := R_OJ) (hN _ k_ca_E_OJ) comp c0 e1 e2)
  · exact va_rAny hK hP h1 rfl (fun comp c0 e1 e2 => vb_asgC (C := R_K) (E := R_OJ) (hN _ k_ca_K_OJ) comp c0 e1 e2)
def keep2 (kl : Nat) (ka : Option Nat) (ws w : va_W) : Prop := (∀ (j : Nat) (x : Nat × va_E), ws[j]? = some x → j ≠ kl → ka ≠ some j → w[j]? = some x) ∧ ws.length ≤ w.length
theorem n_max {a b : Nat} (ha : a < 2 ^ 31) (hb : b < 2 ^ 31) : (if nI a < nI b then nI b else nI a) = nI (max a b) := by
  split
  · rename_i h; rw [nI_ltI ha hb] at h; rw [Nat.max_eq_right (by omega)]
  · rename_i h; rw [nI_ltI ha hb] at h; rw [Nat.max_eq_left (by omega)]
theorem n_min {a b : Nat} (ha : a < 2 ^ 31) (hb : b < 2 ^ 31) : (if nI b < nI a then nI b else nI a) = nI (min a b) := by
  split
  · rename_i h; rw [nI_ltI hb ha] at h; rw [Nat.min_eq_right (by omega)]
  · rename_i h; rw [nI_ltI hb ha] at h; rw [Nat.min_eq_left (by omega)]
section XQ
variable {p : Program} {l : Launch} {e : Env} {R : Room} {s : State} {m : MethodId} {args : Array Value} {below : List Frame} {meth : Method} {c : Code} {H : Heap} {locs : List Loc} {cells slots : Nat} {Q : State → Prop}
variable {cc : ByteArray} {pc : Nat} {ls : Array Slot} {rest : List Value} {G : xG} {A : Nat → Prop} {a : Nat} {ws : va_W} {H0 : Heap}
theorem x_aald (hexec : p.tables.exec = Jvm.exec) (hb : c.code = cc) (hK : va_K (xD G) CL (xT G) s) (hP : va_P (xD G) CL ws H) {q0 n : Nat} {f : Nat → Option Nat} (ha : ws[q0]? = some (a, aO G n f)) {i : Int32} (j : Nat) (hi : i = nI j) (hj : j < n) (hn : n < 100000) {v : Nat} (hv : f j = some v) (hdg : decode cc pc = .ok (.aaload, 1))
    (kk : W p l e R s m args below meth c H locs cells slots Q (F0 m (pc + 1) ls (.ref v :: rest))) : W p l e R s m args below meth c H locs cells slots Q (F0 m pc ls (.int i :: .ref a :: rest)) := by
  subst hi
  refine va_aldq hexec hb hK hP q0 2 ha rfl (vp_in_nI hj (by omega)) hdg ?_
  rw [nI_clamp (by omega), hv]
  exact kk
theorem x_aast (hexec : p.tables.exec = Jvm.exec) (hb : c.code = cc) (hK : va_K (xD G) CL (xT G) s) (hP : va_P (xD G) CL ws H) (hD : va_D A ws) (hS : va_S A H0 H locs) {q0 n : Nat} {f : Nat → Option Nat} (ha : ws[q0]? = some (a, aO G n f)) {v : Nat} (hr : va_Any "java/lang/Object" s H v) {i : Int32} (j : Nat) (hi : i = nI j) (hj : j < n) (hn : n < 100000) (hdg : decode cc pc = .ok (.aastore, 1))
    (kk : ∀ (H1 : Heap) (locs1 : List Loc), va_P (xD G) CL (ws.set q0 (a, aO G n (va_up f j (some v)))) H1 → va_D A (ws.set q0 (a, aO G n (va_up f j (some v)))) → va_S A H0 H1 locs1 → W p l e R s m args below meth c H1 locs1 cells slots Q (F0 m (pc + 1) ls rest)) : W p l e R s m args below meth c H locs cells slots Q (F0 m pc ls (.ref v :: .int i :: .ref a :: rest)) := by
  subst hi
  refine va_astqM hexec hb hK hP hD hS q0 2 ha rfl hr (vp_in_nI hj (by omega)) hdg ?_
  rw [nI_clamp (by omega)]
  exact kk
end XQ

set_option maxHeartbeats 4000000 in
set_option maxRecDepth 100000 in
theorem c_AC_init (l : Launch) (G : xG) (A : Nat → Prop) (ws : va_W) (a : Nat) : Met l y_AC_init (cw_AC_init :: TW) { frames := 1, cells := 0, slots := 0, locals := 26 } (va_Pc [.ref a] (x_P G A ws)) (qV G A (fun w => ws = w)) 0 0 A := by
  refine va_MetF (cc := b_AC_init) (maxL := 1) (ret := none) (by decide +kernel) rfl ?_
  intro p e s m args below meth c s₁ B hml hv
  obtain ⟨rfl, hE, hA, hP, hD⟩ := hv
  have hx := B.exec
  have hb := B.bytes
  have hr := B.returns
  have ht : ∀ w ∈ TW, w.before _ s = true := fun w h => atoms_spec (ws := cw_AC_init :: TW) B.pre w (List.mem_cons_of_mem _ h)
  have hown : s.vm.findClass R_AC = some m.cls := findClass_of_methodNamed B.named
  have hlocks := B.notSynchronized
  have hin : meth.name = "<init>" := (name_of_methodNamed B.named B.method).1
  have hK := hE.1
  have hS : va_S A s.heap s.heap [] := va_S.rf
  have hl := lv_entry ([.ref a]) (n := 1) (Nat.le_of_ble_eq_true rfl)
  rw [lg_entry_eq]
  generalize (lg_sl ([.ref a]) ++ List.replicate (1 - (lg_sl ([.ref a])).length) Slot.unset).toArray = ls at hl ⊢
  have hl : lv_has ls 1 [(0, .ref a)] := hl
  refine lv_aload_n hx hb d_AC_init_0 rfl (lv_at hl 0 rfl) ?_
  refine W.objInit hx hb hown (ht _ k_ml_AC_1) (ht _ k_im_OJ_init) (ht _ k_code_OJ_init) rfl (by rw [hml]; exact hl.1) rfl d_AC_init_1 (Nat.le_of_ble_eq_true rfl) (Nat.le_of_ble_eq_true rfl) ?_
  refine W.eq (g2 := F0 m 4 ls []) rfl ?_
  exact x_vret hx hb hr hlocks hS hP hD (Nat.le_of_ble_eq_true rfl) (Nat.le_of_ble_eq_true rfl) d_AC_init_4 (rfl)

set_option maxHeartbeats 4000000 in
set_option maxRecDepth 100000 in
theorem c_AL_init (l : Launch) (G : xG) (A : Nat → Prop) (ws : va_W) (k a : Nat) (x1 x2 : Value) (x0 : Int32) (h0 : ws[k]? = some (a, .inr (6, [.int x0, x1, x2]))) : Met l y_AL_init (cw_AL_init :: TW) { frames := 2, cells := 0, slots := 0, locals := 52 } (va_Pc [.ref a] (x_P G A ws)) (qV G A (fun w => w = ws.set k (a, .inr (6, [.int (nI 0), x1, x2])))) 0 0 A := by
  refine va_MetF (cc := b_AL_init) (maxL := 1) (ret := none) (by decide +kernel) rfl ?_
  intro p e s m args below meth c s₁ B hml hv
  obtain ⟨rfl, hE, hA, hP, hD⟩ := hv
  have hx := B.exec
  have hb := B.bytes
  have hr := B.returns
  have ht : ∀ w ∈ TW, w.before _ s = true := fun w h => atoms_spec (ws := cw_AL_init :: TW) B.pre w (List.mem_cons_of_mem _ h)
  have hown : s.vm.findClass R_AL = some m.cls := findClass_of_methodNamed B.named
  have hlocks := B.notSynchronized
  have hin : meth.name = "<init>" := (name_of_methodNamed B.named B.method).1
  have hK := hE.1
  have hS : va_S A s.heap s.heap [] := va_S.rf
  have hl := lv_entry ([.ref a]) (n := 1) (Nat.le_of_ble_eq_true rfl)
  rw [lg_entry_eq]
  generalize (lg_sl ([.ref a]) ++ List.replicate (1 - (lg_sl ([.ref a])).length) Slot.unset).toArray = ls at hl ⊢
  have hl : lv_has ls 1 [(0, .ref a)] := hl
  refine lv_aload_n hx hb d_AL_init_0 rfl (lv_at hl 0 rfl) ?_
  refine x_callv (va_runI (As := []) (rest := []) ⟨hx, hb, hml, hown, ht⟩ (c_AC_init l G A ws a) (cwI 0 ht (TW_good k_code_AC_init) rfl rfl rfl (ht _ k_in_AC) (ht _ k_ml_AL_1) (ht _ k_im_AC_init) rfl hv_AC_init.2 ⟨Nat.le_of_ble_eq_true rfl, Nat.le_of_ble_eq_true rfl⟩) ⟨x_blind, x_pre hE hA hS hP hD⟩ rfl rfl hl.1 rfl (lv_room (Nat.le_of_ble_eq_true rfl)) d_AL_init_1 ⟨Nat.le_of_ble_eq_true rfl, Nat.le_of_ble_eq_true rfl⟩) hS (fun w2 H locs q1 hP hD hS => ?_)
  subst q1
  refine lv_aload_n hx hb d_AL_init_4 rfl (lv_at hl 0 rfl) ?_
  refine lv_iconst (v := (nI 0)) hx hb d_AL_init_5 (by decide) ?_
  refine va_put (D := xD G) (ci := 6) (v := .int (nI 0)) (ty := .int) (C := R_A) (T := F_A) (N := 3) hx hb ht in_A ft_A fo_A nm_A hown hK hP hD hS k h0 rfl 0 (by decide) (ht _ k_fl_AL_7) (fun _ h9 => h9) rfl (by decide +kernel) rfl rfl (Nat.le_of_ble_eq_true rfl) d_AL_init_6 (fun H locs hP hD hS => ?_)
  have hP : va_P (xD G) CL (ws.set k (a, .inr (6, [.int (nI 0), x1, x2]))) H := hP
  have hD : va_D A (ws.set k (a, .inr (6, [.int (nI 0), x1, x2]))) := hD
  obtain ⟨w3, e_w3⟩ : ∃ zz : va_W, zz = ws.set k (a, .inr (6, [.int (nI 0), x1, x2])) := ⟨_, rfl⟩
  rw [← e_w3] at hP hD
  have h4 : w3[k]? = some (a, .inr (6, [.int (nI 0), x1, x2])) := by rw [e_w3]; exact w_eq h0
  exact x_vret hx hb hr hlocks hS hP hD (Nat.le_of_ble_eq_true rfl) (Nat.le_of_ble_eq_true rfl) d_AL_init_9 (e_w3)

set_option maxHeartbeats 4000000 in
set_option maxRecDepth 100000 in
theorem c_A_init (l : Launch) (G : xG) (A : Nat → Prop) (ws : va_W) (w0 : va_W) (a : Nat) (hw : ws = w0 ++ [(a, .inr (6, [.int 0, .null, .int 0]))]) : Met l y_A_init (cw_A_init :: TW) { frames := 3, cells := 0, slots := 0, locals := 78 } (va_Pc [.ref a] (x_P G A ws)) (qV G A (fun w => w = w0 ++ [(a, .inr (6, [.int (nI 0), .ref (xZ G), .int 0]))])) 0 0 A := by
  refine va_MetF (cc := b_A_init) (maxL := 1) (ret := none) (by decide +kernel) rfl ?_
  intro p e s m args below meth c s₁ B hml hv
  obtain ⟨rfl, hE, hA, hP, hD⟩ := hv
  have hx := B.exec
  have hb := B.bytes
  have hr := B.returns
  have ht : ∀ w ∈ TW, w.before _ s = true := fun w h => atoms_spec (ws := cw_A_init :: TW) B.pre w (List.mem_cons_of_mem _ h)
  have hown : s.vm.findClass R_A = some m.cls := findClass_of_methodNamed B.named
  have hlocks := B.notSynchronized
  have hin : meth.name = "<init>" := (name_of_methodNamed B.named B.method).1
  have hK := hE.1
  have hS : va_S A s.heap s.heap [] := va_S.rf
  have hl := lv_entry ([.ref a]) (n := 1) (Nat.le_of_ble_eq_true rfl)
  rw [lg_entry_eq]
  generalize (lg_sl ([.ref a]) ++ List.replicate (1 - (lg_sl ([.ref a])).length) Slot.unset).toArray = ls at hl ⊢
  have hl : lv_has ls 1 [(0, .ref a)] := hl
  have h0 : ws[w0.length]? = some (a, .inr (6, [.int 0, .null, .int 0])) := by rw [hw]; exact w_new0
  refine lv_aload_n hx hb d_A_init_0 rfl (lv_at hl 0 rfl) ?_
  refine x_callv (va_runI (As := []) (rest := []) ⟨hx, hb, hml, hown, ht⟩ (c_AL_init l G A ws w0.length a .null (.int 0) 0 h0) (cwI 0 ht (TW_good k_code_AL_init) rfl rfl rfl (ht _ k_in_AL) (ht _ k_ml_A_1) (ht _ k_im_AL_init) rfl hv_AL_init.2 ⟨Nat.le_of_ble_eq_true rfl, Nat.le_of_ble_eq_true rfl⟩) ⟨x_blind, x_pre hE hA hS hP hD⟩ rfl rfl hl.1 rfl (lv_room (Nat.le_of_ble_eq_true rfl)) d_A_init_1 ⟨Nat.le_of_ble_eq_true rfl, Nat.le_of_ble_eq_true rfl⟩) hS (fun w2 H locs q1 hP hD hS => ?_)
  have h1 : w2[w0.length]? = some (a, .inr (6, [.int (nI 0), .null, .int 0])) := by rw [q1]; exact w_eq h0
  refine lv_aload_n hx hb d_A_init_4 rfl (lv_at hl 0 rfl) ?_
  refine va_gets hx hb hE.2.1 hS hown (ht _ k_fl_A_39) (fun _ h9 => h9) d_A_init_5 ?_
  refine va_put (D := xD G) (ci := 6) (v := .ref (xZ G)) (ty := .array (.object "java/lang/Object")) (C := R_A) (T := F_A) (N := 3) hx hb ht in_A ft_A fo_A nm_A hown hK hP hD hS w0.length h1 rfl 1 (by decide) (ht _ k_fl_A_9) (fun _ h9 => h9) rfl (by decide +kernel) rfl rfl (Nat.le_of_ble_eq_true rfl) d_A_init_8 (fun H locs hP hD hS => ?_)
  have hP : va_P (xD G) CL (w2.set w0.length (a, .inr (6, [.int (nI 0), .ref (xZ G), .int 0]))) H := hP
  have hD : va_D A (w2.set w0.length (a, .inr (6, [.int (nI 0), .ref (xZ G), .int 0]))) := hD
  obtain ⟨w3, e_w3⟩ : ∃ zz : va_W, zz = w2.set w0.length (a, .inr (6, [.int (nI 0), .ref (xZ G), .int 0])) := ⟨_, rfl⟩
  rw [← e_w3] at hP hD
  have h4 : w3[w0.length]? = some (a, .inr (6, [.int (nI 0), .ref (xZ G), .int 0])) := by rw [e_w3]; exact w_eq h1
  exact x_vret hx hb hr hlocks hS hP hD (Nat.le_of_ble_eq_true rfl) (Nat.le_of_ble_eq_true rfl) d_A_init_11 (by rw [e_w3, q1, hw]; simp)

set_option maxHeartbeats 4000000 in
set_option maxRecDepth 100000 in
theorem c_A_size (l : Launch) (G : xG) (A : Nat → Prop) (ws : va_W) (kl : Nat) (ka : Option Nat) (al n : Nat) (g : Nat → Nat) (hL : isL G ws kl ka al n g) : Met l y_A_size (cw_A_size :: TW) { frames := 1, cells := 0, slots := 0, locals := 26 } (va_Pc [.ref al] (x_P G A ws)) (qI G A (fun r w => ws = w ∧ r = nI n)) 0 0 A := by
  refine va_MetF (cc := b_A_size) (maxL := 1) (ret := (some .int)) (by decide +kernel) rfl ?_
  intro p e s m args below meth c s₁ B hml hv
  obtain ⟨rfl, hE, hA, hP, hD⟩ := hv
  have hx := B.exec
  have hb := B.bytes
  have hr := B.returns
  have ht : ∀ w ∈ TW, w.before _ s = true := fun w h => atoms_spec (ws := cw_A_size :: TW) B.pre w (List.mem_cons_of_mem _ h)
  have hown : s.vm.findClass R_A = some m.cls := findClass_of_methodNamed B.named
  have hlocks := B.notSynchronized
  have hK := hE.1
  have hS : va_S A s.heap s.heap [] := va_S.rf
  have hl := lv_entry ([.ref al]) (n := 1) (Nat.le_of_ble_eq_true rfl)
  rw [lg_entry_eq]
  generalize (lg_sl ([.ref al]) ++ List.replicate (1 - (lg_sl ([.ref al])).length) Slot.unset).toArray = ls at hl ⊢
  have hl : lv_has ls 1 [(0, .ref al)] := hl
  obtain ⟨mo, ea, h0, -⟩ := hL
  refine lv_aload_n hx hb d_A_size_0 rfl (lv_at hl 0 rfl) ?_
  refine va_get (D := xD G) (ci := 6) (C := R_A) (T := F_A) (N := 3) hx hb ht in_A hown hK hP kl h0 rfl 2 (by decide) (ht _ k_fl_A_48) (fun _ h9 => h9) rfl d_A_size_1 ?_
  exact x_iret hx hb hr hlocks hS hP hD (Nat.le_of_ble_eq_true rfl) (Nat.le_of_ble_eq_true rfl) d_A_size_4 (⟨rfl, rfl⟩)

set_option maxHeartbeats 4000000 in
set_option maxRecDepth 100000 in
theorem c_A_el (l : Launch) (G : xG) (A : Nat → Prop) (ws : va_W) (kl : Nat) (ka : Option Nat) (al n i : Nat) (g : Nat → Nat) (hL : isL G ws kl ka al n g) (hi : i < n) : Met l y_A_elementData (cw_A_elementData :: TW) { frames := 1, cells := 0, slots := 0, locals := 26 } (va_Pc [.ref al, .int (nI i)] (x_P G A ws)) (qR G A (fun r w => ws = w ∧ r = g i)) 0 0 A := by
  refine va_MetF (cc := b_A_elementData) (maxL := 2) (ret := (some (.object "java/lang/Object"))) (by decide +kernel) rfl ?_
  intro p e s m args below meth c s₁ B hml hv
  obtain ⟨rfl, hE, hA, hP, hD⟩ := hv
  have hx := B.exec
  have hb := B.bytes
  have hr := B.returns
  have ht : ∀ w ∈ TW, w.before _ s = true := fun w h => atoms_spec (ws := cw_A_elementData :: TW) B.pre w (List.mem_cons_of_mem _ h)
  have hown : s.vm.findClass R_A = some m.cls := findClass_of_methodNamed B.named
  have hlocks := B.notSynchronized
  have hK := hE.1
  have hS : va_S A s.heap s.heap [] := va_S.rf
  have hl := lv_entry ([.ref al, .int (nI i)]) (n := 2) (Nat.le_of_ble_eq_true rfl)
  rw [lg_entry_eq]
  generalize (lg_sl ([.ref al, .int (nI i)]) ++ List.replicate (2 - (lg_sl ([.ref al, .int (nI i)])).length) Slot.unset).toArray = ls at hl ⊢
  have hl : lv_has ls 2 [(0, .ref al), (1, .int (nI i))] := hl
  obtain ⟨mo, ea, h0, ⟨-, h2, -⟩ | ⟨k, cap, f, -, h3, h4, h5, h6, h7⟩⟩ := hL
  · exact False.elim (by omega)
  refine lv_aload_n hx hb d_A_elementData_0 rfl (lv_at hl 0 rfl) ?_
  refine va_get (D := xD G) (ci := 6) (C := R_A) (T := F_A) (N := 3) hx hb ht in_A hown hK hP kl h0 rfl 1 (by decide) (ht _ k_fl_A_9) (fun _ h9 => h9) rfl d_A_elementData_1 ?_
  refine lv_iload_n hx hb d_A_elementData_4 rfl (lv_at hl 1 rfl) ?_
  refine x_aald hx hb hK hP h3 i rfl (by omega) (by omega) (h7 i hi) d_A_elementData_5 ?_
  exact x_aret hx hb hr (Or.inl ⟨_, rfl⟩) hlocks hS hP hD (Nat.le_of_ble_eq_true rfl) (Nat.le_of_ble_eq_true rfl) d_A_elementData_6 (⟨rfl, rfl⟩)

set_option maxHeartbeats 4000000 in
set_option maxRecDepth 100000 in
theorem c_PC_check (l : Launch) (G : xG) (A : Nat → Prop) (ws : va_W) (i n : Nat) (hi : i < n) (hn : n < 2 ^ 31) : Met l y_PC_checkIndex (cw_PC_checkIndex :: TW) { frames := 1, cells := 0, slots := 0, locals := 26 } (va_Pc [.int (nI i), .int (nI n), .null] (x_P G A ws)) (qI G A (fun r w => ws = w)) 0 0 A := by
  refine va_MetF (cc := b_PC_checkIndex) (maxL := 3) (ret := (some .int)) (by decide +kernel) rfl ?_
  intro p e s m args below meth c s₁ B hml hv
  obtain ⟨rfl, hE, hA, hP, hD⟩ := hv
  have hx := B.exec
  have hb := B.bytes
  have hr := B.returns
  have ht : ∀ w ∈ TW, w.before _ s = true := fun w h => atoms_spec (ws := cw_PC_checkIndex :: TW) B.pre w (List.mem_cons_of_mem _ h)
  have hown : s.vm.findClass R_PC = some m.cls := findClass_of_methodNamed B.named
  have hlocks := B.notSynchronized
  have hK := hE.1
  have hS : va_S A s.heap s.heap [] := va_S.rf
  have hl := lv_entry ([.int (nI i), .int (nI n), .null]) (n := 3) (Nat.le_of_ble_eq_true rfl)
  rw [lg_entry_eq]
  generalize (lg_sl ([.int (nI i), .int (nI n), .null]) ++ List.replicate (3 - (lg_sl ([.int (nI i), .int (nI n), .null])).length) Slot.unset).toArray = ls at hl ⊢
  have hl : lv_has ls 3 [(0, .int (nI i)), (1, .int (nI n)), (2, .null)] := hl
  refine lv_iload_n hx hb d_PC_checkIndex_0 rfl (lv_at hl 0 rfl) ?_
  refine lv_if_lt (tgt := 9) hx hb d_PC_checkIndex_1 (by decide) (fun c1 => absurd c1 (nI_pos (by omega))) (fun c1 => ?_)
  refine lv_iload_n hx hb d_PC_checkIndex_4 rfl (lv_at hl 0 rfl) ?_
  refine lv_iload_n hx hb d_PC_checkIndex_5 rfl (lv_at hl 1 rfl) ?_
  refine x_lt hx hb i n rfl rfl (by omega) (by omega) (tgt := 16) d_PC_checkIndex_6 (by decide) (fun c1 => ?_) (fun c1 => ?_)
  · refine lv_iload_n hx hb d_PC_checkIndex_16 rfl (lv_at hl 0 rfl) ?_
    exact x_iret hx hb hr hlocks hS hP hD (Nat.le_of_ble_eq_true rfl) (Nat.le_of_ble_eq_true rfl) d_PC_checkIndex_17 (rfl)
  · exact False.elim (by omega)

set_option maxHeartbeats 4000000 in
set_option maxRecDepth 100000 in
theorem c_OB_check (l : Launch) (G : xG) (A : Nat → Prop) (ws : va_W) (i n : Nat) (hi : i < n) (hn : n < 2 ^ 31) : Met l y_OB_checkIndex (cw_OB_checkIndex :: TW) { frames := 2, cells := 0, slots := 0, locals := 52 } (va_Pc [.int (nI i), .int (nI n)] (x_P G A ws)) (qI G A (fun r w => ws = w)) 0 0 A := by
  refine va_MetF (cc := b_OB_checkIndex) (maxL := 2) (ret := (some .int)) (by decide +kernel) rfl ?_
  intro p e s m args below meth c s₁ B hml hv
  obtain ⟨rfl, hE, hA, hP, hD⟩ := hv
  have hx := B.exec
  have hb := B.bytes
  have hr := B.returns
  have ht : ∀ w ∈ TW, w.before _ s = true := fun w h => atoms_spec (ws := cw_OB_checkIndex :: TW) B.pre w (List.mem_cons_of_mem _ h)
  have hown : s.vm.findClass R_OB = some m.cls := findClass_of_methodNamed B.named
  have hlocks := B.notSynchronized
  have hK := hE.1
  have hS : va_S A s.heap s.heap [] := va_S.rf
  have hl := lv_entry ([.int (nI i), .int (nI n)]) (n := 2) (Nat.le_of_ble_eq_true rfl)
  rw [lg_entry_eq]
  generalize (lg_sl ([.int (nI i), .int (nI n)]) ++ List.replicate (2 - (lg_sl ([.int (nI i), .int (nI n)])).length) Slot.unset).toArray = ls at hl ⊢
  have hl : lv_has ls 2 [(0, .int (nI i)), (1, .int (nI n))] := hl
  refine lv_iload_n hx hb d_OB_checkIndex_0 rfl (lv_at hl 0 rfl) ?_
  refine lv_iload_n hx hb d_OB_checkIndex_1 rfl (lv_at hl 1 rfl) ?_
  refine lv_null hx hb d_OB_checkIndex_2 ?_
  refine x_calli (va_runS (As := [.int (nI i), .int (nI n), .null]) (rest := []) ⟨hx, hb, hml, hown, ht⟩ (c_PC_check l G A ws i n hi hn) (va_cwS 3 ht (TW_S k_ml_OB_105 k_st_PC_checkIndex k_in_PC k_code_PC_checkIndex) rfl rfl rfl hv_PC_checkIndex.2 ⟨Nat.le_of_ble_eq_true rfl, Nat.le_of_ble_eq_true rfl⟩) ⟨x_blind, x_pre hE hA hS hP hD⟩ rfl rfl hl.1 rfl (lv_room (Nat.le_of_ble_eq_true rfl)) d_OB_checkIndex_3 ⟨Nat.le_of_ble_eq_true rfl, Nat.le_of_ble_eq_true rfl⟩) hS (fun r3 w2 H locs q1 hP hD hS => ?_)
  subst q1
  exact x_iret hx hb hr hlocks hS hP hD (Nat.le_of_ble_eq_true rfl) (Nat.le_of_ble_eq_true rfl) d_OB_checkIndex_6 (rfl)

set_option maxHeartbeats 4000000 in
set_option maxRecDepth 100000 in
theorem c_A_get (l : Launch) (G : xG) (A : Nat → Prop) (ws : va_W) (kl : Nat) (ka : Option Nat) (al n i : Nat) (g : Nat → Nat) (hL : isL G ws kl ka al n g) (hi : i < n) (hn : n < 2 ^ 31) : Met l y_A_get (cw_A_get :: TW) { frames := 3, cells := 0, slots := 0, locals := 78 } (va_Pc [.ref al, .int (nI i)] (x_P G A ws)) (qR G A (fun r w => ws = w ∧ r = g i)) 0 0 A := by
  refine va_MetF (cc := b_A_get) (maxL := 2) (ret := (some (.object "java/lang/Object"))) (by decide +kernel) rfl ?_
  intro p e s m args below meth c s₁ B hml hv
  obtain ⟨rfl, hE, hA, hP, hD⟩ := hv
  have hx := B.exec
  have hb := B.bytes
  have hr := B.returns
  have ht : ∀ w ∈ TW, w.before _ s = true := fun w h => atoms_spec (ws := cw_A_get :: TW) B.pre w (List.mem_cons_of_mem _ h)
  have hown : s.vm.findClass R_A = some m.cls := findClass_of_methodNamed B.named
  have hlocks := B.notSynchronized
  have hK := hE.1
  have hS : va_S A s.heap s.heap [] := va_S.rf
  have hl := lv_entry ([.ref al, .int (nI i)]) (n := 2) (Nat.le_of_ble_eq_true rfl)
  rw [lg_entry_eq]
  generalize (lg_sl ([.ref al, .int (nI i)]) ++ List.replicate (2 - (lg_sl ([.ref al, .int (nI i)])).length) Slot.unset).toArray = ls at hl ⊢
  have hl : lv_has ls 2 [(0, .ref al), (1, .int (nI i))] := hl
  obtain ⟨mo, ea, h0, -⟩ := id hL
  refine lv_iload_n hx hb d_A_get_0 rfl (lv_at hl 1 rfl) ?_
  refine lv_aload_n hx hb d_A_get_1 rfl (lv_at hl 0 rfl) ?_
  refine va_get (D := xD G) (ci := 6) (C := R_A) (T := F_A) (N := 3) hx hb ht in_A hown hK hP kl h0 rfl 2 (by decide) (ht _ k_fl_A_48) (fun _ h9 => h9) rfl d_A_get_2 ?_
  refine x_calli (va_runS (As := [.int (nI i), .int (nI n)]) (rest := []) ⟨hx, hb, hml, hown, ht⟩ (c_OB_check l G A ws i n hi hn) (va_cwS 2 ht (TW_S k_ml_A_118 k_st_OB_checkIndex k_in_OB k_code_OB_checkIndex) rfl rfl rfl hv_OB_checkIndex.2 ⟨Nat.le_of_ble_eq_true rfl, Nat.le_of_ble_eq_true rfl⟩) ⟨x_blind, x_pre hE hA hS hP hD⟩ rfl rfl hl.1 rfl (lv_room (Nat.le_of_ble_eq_true rfl)) d_A_get_5 ⟨Nat.le_of_ble_eq_true rfl, Nat.le_of_ble_eq_true rfl⟩) hS (fun r3 w2 H locs q1 hP hD hS => ?_)
  subst q1
  refine lv_pop hx hb d_A_get_8 rfl ?_
  refine lv_aload_n hx hb d_A_get_9 rfl (lv_at hl 0 rfl) ?_
  refine lv_iload_n hx hb d_A_get_10 rfl (lv_at hl 1 rfl) ?_
  refine x_callr (va_runV (As := [.int (nI i)]) (rest := []) ⟨hx, hb, hml, hown, ht⟩ (c_A_el l G A ws kl ka al n i g hL hi) (cwV 1 ht (TW_V k_ml_A_123 k_im_A_elementData k_se_A_elementData k_in_A k_code_A_elementData) rfl rfl rfl hv_A_elementData ⟨Nat.le_of_ble_eq_true rfl, Nat.le_of_ble_eq_true rfl⟩) ⟨x_blind, va_recv hK hP rfl h0, x_pre hE hA hS hP hD⟩ rfl rfl hl.1 rfl (lv_room (Nat.le_of_ble_eq_true rfl)) d_A_get_11 ⟨Nat.le_of_ble_eq_true rfl, Nat.le_of_ble_eq_true rfl⟩) hS (fun r6 w5 H locs q4 hP hD hS => ?_)
  exact x_aret hx hb hr (Or.inl ⟨_, rfl⟩) hlocks hS hP hD (Nat.le_of_ble_eq_true rfl) (Nat.le_of_ble_eq_true rfl) d_A_get_14 (q4)

set_option maxHeartbeats 4000000 in
set_option maxRecDepth 100000 in
theorem c_newLength (l : Launch) (G : xG) (A : Nat → Prop) (ws : va_W) (o k : Nat) (ho : o ≤ 1000) (hk : k ≤ 1000) : Met l y_AS_newLength (cw_AS_newLength :: TW) { frames := 2, cells := 0, slots := 0, locals := 52 } (va_Pc [.int (nI o), .int (nI 1), .int (nI k)] (x_P G A ws)) (qI G A (fun r w => ws = w ∧ r = nI (o + max 1 k))) 0 0 A := by
  refine va_MetF (cc := b_AS_newLength) (maxL := 4) (ret := (some .int)) (by decide +kernel) rfl ?_
  intro p e s m args below meth c s₁ B hml hv
  obtain ⟨rfl, hE, hA, hP, hD⟩ := hv
  have hx := B.exec
  have hb := B.bytes
  have hr := B.returns
  have ht : ∀ w ∈ TW, w.before _ s = true := fun w h => atoms_spec (ws := cw_AS_newLength :: TW) B.pre w (List.mem_cons_of_mem _ h)
  have hown : s.vm.findClass R_AS = some m.cls := findClass_of_methodNamed B.named
  have hlocks := B.notSynchronized
  have hK := hE.1
  have hS : va_S A s.heap s.heap [] := va_S.rf
  have hl := lv_entry ([.int (nI o), .int (nI 1), .int (nI k)]) (n := 4) (Nat.le_of_ble_eq_true rfl)
  rw [lg_entry_eq]
  generalize (lg_sl ([.int (nI o), .int (nI 1), .int (nI k)]) ++ List.replicate (4 - (lg_sl ([.int (nI o), .int (nI 1), .int (nI k)])).length) Slot.unset).toArray = ls at hl ⊢
  have hl : lv_has ls 4 [(0, .int (nI o)), (1, .int (nI 1)), (2, .int (nI k))] := hl
  refine lv_iload_n hx hb d_AS_newLength_0 rfl (lv_at hl 0 rfl) ?_
  refine lv_iload_n hx hb d_AS_newLength_1 rfl (lv_at hl 1 rfl) ?_
  refine lv_iload_n hx hb d_AS_newLength_2 rfl (lv_at hl 2 rfl) ?_
  refine va_mmax hx hb (by rw [hml]; exact hl.1.symm) hown (ht _ k_ml_AS_194) (ht _ k_st_MA_max) (ht _ k_in_MA) (ht _ k_code_MA_max) (Nat.le_of_ble_eq_true rfl) (Nat.le_of_ble_eq_true rfl) (Nat.le_of_ble_eq_true rfl) (Nat.le_of_ble_eq_true rfl) d_AS_newLength_3 ?_
  refine x_top (nI (max 1 k)) (n_max (by decide) (by omega)) ?_
  refine lv_iadd hx hb d_AS_newLength_6 ?_
  refine x_top (nI (o + (max 1 k))) (nI_add _ _) ?_
  refine lv_istore_n (lv' := [(3, .int (nI (o + (max 1 k)))), (0, .int (nI o)), (1, .int (nI 1)), (2, .int (nI k))]) hx hb d_AS_newLength_7 rfl hl (by decide) rfl (fun ls hl => ?_)
  refine lv_iconst (v := (nI 0)) hx hb d_AS_newLength_8 (by decide) ?_
  refine lv_iload_n hx hb d_AS_newLength_9 rfl (lv_at hl 0 rfl) ?_
  refine x_ge hx hb 0 (o + (max 1 k)) rfl rfl (by omega) (by omega) (tgt := 21) d_AS_newLength_10 (by decide) (fun c1 => ?_) (fun c1 => ?_)
  · exact False.elim (by omega)
  · refine lv_iload_n hx hb d_AS_newLength_13 rfl (lv_at hl 0 rfl) ?_
    refine lv_ldc (v := nI 2147483639) hx hb hown (ht _ k_co_AS_200) d_AS_newLength_14 ?_
    refine x_gt hx hb (o + (max 1 k)) 2147483639 rfl rfl (by omega) (by omega) (tgt := 21) d_AS_newLength_16 (by decide) (fun c2 => ?_) (fun c2 => ?_)
    · exact False.elim (by omega)
    · refine lv_iload_n hx hb d_AS_newLength_19 rfl (lv_at hl 0 rfl) ?_
      exact x_iret hx hb hr hlocks hS hP hD (Nat.le_of_ble_eq_true rfl) (Nat.le_of_ble_eq_true rfl) d_AS_newLength_20 (⟨rfl, rfl⟩)

set_option maxHeartbeats 4000000 in
set_option maxRecDepth 100000 in
theorem c_copyOf3 (l : Launch) (G : xG) (A : Nat → Prop) (ws : va_W) (k ea cap nc : Nat) (f : Nat → Option Nat) (h0 : ws[k]? = some (ea, aO G cap f)) (hc : cap ≤ nc) (hn : nc ≤ 150) (hel : ∀ j y, j < cap → f j = some y → isO ws y) : Met l y_AR_copyOf3 (cw_AR_copyOf3 :: TW) { frames := 2, cells := 1, slots := 150, locals := 52 } (va_Pc [.ref ea, .int (nI nc), .ref (xM G)] (x_P G A ws)) (qR G A (fun r w => w = ws ++ [(r, aO G nc (va_cpy f (fun _ => none) 0 0 cap))])) 1 150 A := by
  refine va_MetF (cc := b_AR_copyOf3) (maxL := 4) (ret := (some (.array (.object "java/lang/Object")))) (by decide +kernel) rfl ?_
  intro p e s m args below meth c s₁ B hml hv
  obtain ⟨rfl, hE, hA, hP, hD⟩ := hv
  have hx := B.exec
  have hb := B.bytes
  have hr := B.returns
  have ht : ∀ w ∈ TW, w.before _ s = true := fun w h => atoms_spec (ws := cw_AR_copyOf3 :: TW) B.pre w (List.mem_cons_of_mem _ h)
  have hown : s.vm.findClass R_AR = some m.cls := findClass_of_methodNamed B.named
  have hlocks := B.notSynchronized
  have hK := hE.1
  have hS : va_S A s.heap s.heap [] := va_S.rf
  have hl := lv_entry ([.ref ea, .int (nI nc), .ref (xM G)]) (n := 4) (Nat.le_of_ble_eq_true rfl)
  rw [lg_entry_eq]
  generalize (lg_sl ([.ref ea, .int (nI nc), .ref (xM G)]) ++ List.replicate (4 - (lg_sl ([.ref ea, .int (nI nc), .ref (xM G)])).length) Slot.unset).toArray = ls at hl ⊢
  have hl : lv_has ls 4 [(0, .ref ea), (1, .int (nI nc)), (2, .ref (xM G))] := hl
  refine lv_aload_n hx hb d_AR_copyOf3_0 rfl (lv_at hl 2 rfl) ?_
  refine va_ldcM hx hb hown (ht _ k_cl_AR_110) hE.2.2.2.1 d_AR_copyOf3_1 ?_
  refine lv_acmp_ne (rx := some (xM G)) (ry := some (xM G)) (tgt := 13) hx hb d_AR_copyOf3_3 (by decide) (fun c1 => absurd rfl c1) (fun _ => ?_)
  refine lv_iload_n hx hb d_AR_copyOf3_6 rfl (lv_at hl 1 rfl) ?_
  refine x_newq hx hb hown (ht _ k_cl_AR_2) hE.2.2.2.2.1 hK hP hD hS hA nc rfl (by omega) (Nat.le_of_ble_eq_true rfl) (by show 0 + nc ≤ 150; omega) d_AR_copyOf3_7 (fun q H hP hD hS => ?_)
  refine W.widen (k := 1) (n := 150) (Nat.le_of_ble_eq_true rfl) (by omega) ?_
  have hP : va_P (xD G) CL (ws ++ [(q, aO G nc (fun _ => none))]) H := hP
  have hD : va_D A (ws ++ [(q, aO G nc (fun _ => none))]) := hD
  obtain ⟨w1, e_w1⟩ : ∃ zz : va_W, zz = ws ++ [(q, aO G nc (fun _ => none))] := ⟨_, rfl⟩
  rw [← e_w1] at hP hD
  have h2 : w1[k]? = some (ea, aO G cap f) := by rw [e_w1]; exact w_app h0
  have h9 : w1[ws.length]? = some (q, aO G nc (fun _ => none)) := by rw [e_w1]; exact w_new0
  refine lv_goto (tgt := 24) hx hb d_AR_copyOf3_10 (by decide) ?_
  refine lv_astore_n (lv' := [(3, .ref q), (0, .ref ea), (1, .int (nI nc)), (2, .ref (xM G))]) hx hb d_AR_copyOf3_24 rfl hl (by decide) rfl (fun ls hl => ?_)
  refine lv_aload_n hx hb d_AR_copyOf3_25 rfl (lv_at hl 1 rfl) ?_
  refine lv_iconst (v := (nI 0)) hx hb d_AR_copyOf3_26 (by decide) ?_
  refine lv_aload_n hx hb d_AR_copyOf3_27 rfl (lv_at hl 0 rfl) ?_
  refine lv_iconst (v := (nI 0)) hx hb d_AR_copyOf3_28 (by decide) ?_
  refine lv_aload_n hx hb d_AR_copyOf3_29 rfl (lv_at hl 1 rfl) ?_
  refine va_alen hx hb hK hP k 2 h2 rfl (v := nI cap) rfl d_AR_copyOf3_30 ?_
  refine lv_iload_n hx hb d_AR_copyOf3_31 rfl (lv_at hl 2 rfl) ?_
  refine va_mmin hx hb (by rw [hml]; exact hl.1.symm) hown (ht _ k_ml_AR_304) (ht _ k_st_MA_min) (ht _ k_in_MA) (ht _ k_code_MA_min) (Nat.le_of_ble_eq_true rfl) (Nat.le_of_ble_eq_true rfl) (Nat.le_of_ble_eq_true rfl) (Nat.le_of_ble_eq_true rfl) d_AR_copyOf3_32 ?_
  refine x_top (nI cap) (by rw [n_min (by omega) (by omega), Nat.min_eq_left hc]) ?_
  refine va_copyM hx hb (by rw [hml]; exact hl.1.symm) hown (ht _ k_ml_AR_150) (ht _ k_na_arraycopy) (ht _ k_st_arraycopy) (ht _ k_in_System) hK hP hD hS k ws.length 2 2 h2 h9 rfl rfl (nI_pos (by decide)) (nI_pos (by decide)) (nI_pos (by omega)) (by rw [nI_clamp (by decide), nI_clamp (by omega)]; omega) (by rw [nI_clamp (by decide), nI_clamp (by omega)]; omega) ?_ (Nat.le_of_ble_eq_true rfl) (Nat.le_of_ble_eq_true rfl) d_AR_copyOf3_35 (fun H locs hP hD hS => ?_)
  · intro i hi y hy
    rw [nI_clamp (by decide), Nat.zero_add] at hy
    rw [nI_clamp (by omega)] at hi
    obtain ⟨k9, ci9, fs9, e1, e2⟩ := hel i y hi hy
    exact isO.any hE hP ⟨k9, ci9, fs9, by rw [e_w1]; exact w_app e1, e2⟩
  rw [nI_clamp (by decide), nI_clamp (by omega)] at hP hD
  refine lv_aload_n hx hb d_AR_copyOf3_38 rfl (lv_at hl 0 rfl) ?_
  exact x_aret hx hb hr (Or.inr ⟨_, rfl⟩) hlocks hS hP hD (Nat.le_of_ble_eq_true rfl) (Nat.le_of_ble_eq_true rfl) d_AR_copyOf3_39 (by rw [e_w1]; simp)

set_option maxHeartbeats 4000000 in
set_option maxRecDepth 100000 in
theorem c_copyOf2 (l : Launch) (G : xG) (A : Nat → Prop) (ws : va_W) (k ea cap nc : Nat) (f : Nat → Option Nat) (h0 : ws[k]? = some (ea, aO G cap f)) (hc : cap ≤ nc) (hn : nc ≤ 150) (hel : ∀ j y, j < cap → f j = some y → isO ws y) : Met l y_AR_copyOf2 (cw_AR_copyOf2 :: TW) { frames := 3, cells := 1, slots := 150, locals := 78 } (va_Pc [.ref ea, .int (nI nc)] (x_P G A ws)) (qR G A (fun r w => w = ws ++ [(r, aO G nc (va_cpy f (fun _ => none) 0 0 cap))])) 1 150 A := by
  refine va_MetF (cc := b_AR_copyOf2) (maxL := 2) (ret := (some (.array (.object "java/lang/Object")))) (by decide +kernel) rfl ?_
  intro p e s m args below meth c s₁ B hml hv
  obtain ⟨rfl, hE, hA, hP, hD⟩ := hv
  have hx := B.exec
  have hb := B.bytes
  have hr := B.returns
  have ht : ∀ w ∈ TW, w.before _ s = true := fun w h => atoms_spec (ws := cw_AR_copyOf2 :: TW) B.pre w (List.mem_cons_of_mem _ h)
  have hown : s.vm.findClass R_AR = some m.cls := findClass_of_methodNamed B.named
  have hlocks := B.notSynchronized
  have hK := hE.1
  have hS : va_S A s.heap s.heap [] := va_S.rf
  have hl := lv_entry ([.ref ea, .int (nI nc)]) (n := 2) (Nat.le_of_ble_eq_true rfl)
  rw [lg_entry_eq]
  generalize (lg_sl ([.ref ea, .int (nI nc)]) ++ List.replicate (2 - (lg_sl ([.ref ea, .int (nI nc)])).length) Slot.unset).toArray = ls at hl ⊢
  have hl : lv_has ls 2 [(0, .ref ea), (1, .int (nI nc))] := hl
  refine lv_aload_n hx hb d_AR_copyOf2_0 rfl (lv_at hl 0 rfl) ?_
  refine lv_iload_n hx hb d_AR_copyOf2_1 rfl (lv_at hl 1 rfl) ?_
  refine lv_aload_n hx hb d_AR_copyOf2_2 rfl (lv_at hl 0 rfl) ?_
  refine va_getC hx hb (by rw [hml]; exact hl.1.symm) hown (ht _ k_ml_AR_86) (va_Nw.use rfl (hE.2.2.2.2.2.2.2 _ k_de_getClass)) (ht _ k_se_getClass) (ht _ k_im_getClass) (ht _ k_na_getClass) hE.2.2.2.1 ⟨_, hP k _ h0, rfl, va_nmO (hK.2 2 (xO G, .object "java/lang/Object") rfl).2 (by decide)⟩ (Nat.le_of_ble_eq_true rfl) (Nat.le_of_ble_eq_true rfl) d_AR_copyOf2_3 ?_
  refine x_callr (va_runS (As := [.ref ea, .int (nI nc), .ref (xM G)]) (rest := []) ⟨hx, hb, hml, hown, ht⟩ (c_copyOf3 l G A ws k ea cap nc f h0 hc hn hel) (va_cwS 3 ht (TW_S k_ml_AR_300 k_st_AR_copyOf3 k_in_AR k_code_AR_copyOf3) rfl rfl rfl hv_AR_copyOf3.2 ⟨Nat.le_of_ble_eq_true rfl, Nat.le_of_ble_eq_true rfl⟩) ⟨x_blind, x_pre hE hA hS hP hD⟩ rfl rfl hl.1 rfl (lv_room (Nat.le_of_ble_eq_true rfl)) d_AR_copyOf2_6 ⟨Nat.le_of_ble_eq_true rfl, Nat.le_of_ble_eq_true rfl⟩) hS (fun r3 w2 H locs q1 hP hD hS => ?_)
  refine W.widen (k := 1) (n := 150) (Nat.le_of_ble_eq_true rfl) (Nat.le_of_ble_eq_true rfl) ?_
  exact x_aret hx hb hr (Or.inr ⟨_, rfl⟩) hlocks hS hP hD (Nat.le_of_ble_eq_true rfl) (Nat.le_of_ble_eq_true rfl) d_AR_copyOf2_9 (q1)
