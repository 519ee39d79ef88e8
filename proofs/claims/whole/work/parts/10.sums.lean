/-! sums -/
theorem w_set0 {w0 : va_W} {x y z : Nat × va_E} : ((w0 ++ [x]) ++ [y]).set w0.length z = w0 ++ [z, y] := by simp
theorem w_set1 {w0 : va_W} {x y z : Nat × va_E} : (w0 ++ [x, y]).set (w0.length + 1) z = w0 ++ [x, z] := by simp
def unit (v : Nat) : Nat → Nat := fun j => if j = v then 1 else 0
/-- a sum that was made: two cells more -/
def mkS (G : xG) (ws : va_W) (f : Nat → Nat) (r : Nat) (w : va_W) : Prop := ∃ (ca : Nat) (h : Nat → Int32), w = ws ++ [(r, .inr (1, [.ref ca])), (ca, aI G 60 h)] ∧ ∀ j, j < 60 → h j = nI (f j)
/-- a sum that stands; places 8 and 9 are the witness and the draft -/
def isS (G : xG) (ws : va_W) (a : Nat) (f : Nat → Nat) : Prop := ∃ (k k' ca : Nat) (h : Nat → Int32), ws[k]? = some (a, .inr (1, [.ref ca])) ∧ ws[k']? = some (ca, aI G 60 h) ∧ k' ≠ 8 ∧ k' ≠ 9 ∧ (∀ j, j < 60 → h j = nI (f j)) ∧ ∀ j, j < 60 → f j < 97
theorem isS.app {G : xG} {ws n : va_W} {a : Nat} {f : Nat → Nat} (h : isS G ws a f) : isS G (ws ++ n) a f := by
  obtain ⟨k, k', ca, h0, h1, h2, h3⟩ := h
  exact ⟨k, k', ca, h0, w_app h1, w_app h2, h3⟩
theorem mkS.app {G : xG} {ws w : va_W} {f : Nat → Nat} {r : Nat} (h : mkS G ws f r w) : ∃ n, w = ws ++ n := by
  obtain ⟨ca, h0, h1, -⟩ := h
  exact ⟨_, h1⟩
theorem mkS.isS {G : xG} {ws w : va_W} {f : Nat → Nat} {r : Nat} (h : mkS G ws f r w) (hl : ws.length + 1 ≠ 8 ∧ ws.length + 1 ≠ 9) (hf : ∀ j, j < 60 → f j < 97) : isS G w r f := by
  obtain ⟨ca, h0, rfl, h2⟩ := h
  exact ⟨ws.length, ws.length + 1, ca, h0, w_new0, w_new1, hl.1, hl.2, h2, hf⟩
theorem mkS.len {G : xG} {ws w : va_W} {f : Nat → Nat} {r : Nat} (h : mkS G ws f r w) : w.length = ws.length + 2 := by
  obtain ⟨ca, h0, rfl, h2⟩ := h
  simp

set_option maxHeartbeats 4000000 in
set_option maxRecDepth 100000 in
theorem c_S_init (l : Launch) (G : xG) (A : Nat → Prop) (ws : va_W) (w0 : va_W) (a : Nat) (hw : ws = w0 ++ [(a, .inr (1, [.null]))]) : Met l y_S_init (cw_S_init :: TW) { frames := 1, cells := 1, slots := 60, locals := 26 } (va_Pc [.ref a] (x_P G A ws)) (qV G A (fun w => ∃ q, w = w0 ++ [(a, .inr (1, [.ref q])), (q, aI G 60 (fun _ => 0))])) 1 60 A := by
  refine Met.ofW (cc := b_S_init) (maxL := 1) (ret := none) (by decide) rfl ?_
  intro p e s m args below meth c s₁ B hml hv
  obtain ⟨rfl, hE, hA, hP, hD⟩ := hv
  have hx := B.exec
  have hb := B.bytes
  have hr := B.returns
  have ht : ∀ w ∈ TW, w.before _ s = true := fun w h => atoms_spec (ws := cw_S_init :: TW) B.pre w (List.mem_cons_of_mem _ h)
  have hown : s.vm.findClass R_S = some m.cls := findClass_of_methodNamed B.named
  have hlocks := B.notSynchronized
  have hin : meth.name = "<init>" := (name_of_methodNamed B.named B.method).1
  have hK := hE.1
  have hS : va_S A s.heap s.heap [] := va_S.rf
  have hl := lv_entry ([.ref a]) (n := 1) (Nat.le_of_ble_eq_true rfl)
  rw [lg_entry_eq]
  generalize (lg_sl ([.ref a]) ++ List.replicate (1 - (lg_sl ([.ref a])).length) Slot.unset).toArray = ls at hl ⊢
  have hl : lv_has ls 1 [(0, .ref a)] := hl
  have h0 : ws[w0.length]? = some (a, .inr (1, [.null])) := by rw [hw]; exact w_new0
  refine lv_aload_n hx hb d_S_init_0 rfl (lv_at hl 0 rfl) ?_
  refine W.objInit hx hb hown (ht _ k_ml_S_3) (ht _ k_im_OJ_init) (ht _ k_code_OJ_init) rfl (by rw [hml]; exact hl.1) rfl d_S_init_1 (Nat.le_of_ble_eq_true rfl) (Nat.le_of_ble_eq_true rfl) ?_
  refine W.eq (g2 := F0 m 4 ls []) rfl ?_
  refine lv_aload_n hx hb d_S_init_4 rfl (lv_at hl 0 rfl) ?_
  refine lv_bipush (v := (nI 60)) hx hb d_S_init_5 (by decide) ?_
  refine x_newa hx hb (ht _ k_ac_int) hK hP hD hS hA 60 rfl (by decide) (Nat.le_of_ble_eq_true rfl) (Nat.le_of_ble_eq_true rfl) d_S_init_7 (fun q H hP hD hS => ?_)
  refine W.widen (k := 1) (n := 60) (Nat.le_of_ble_eq_true rfl) (Nat.le_of_ble_eq_true rfl) ?_
  have hP : va_P (xD G) CL (ws ++ [(q, aI G 60 (fun _ => 0))]) H := hP
  have hD : va_D A (ws ++ [(q, aI G 60 (fun _ => 0))]) := hD
  obtain ⟨w1, e_w1⟩ : ∃ zz : va_W, zz = ws ++ [(q, aI G 60 (fun _ => 0))] := ⟨_, rfl⟩
  rw [← e_w1] at hP hD
  have h2 : w1[w0.length]? = some (a, .inr (1, [.null])) := by rw [e_w1]; exact w_app h0
  have h3 : w1[ws.length]? = some (q, aI G 60 (fun _ => 0)) := by rw [e_w1]; exact w_new0
  refine va_putF (D := xD G) (ci := 1) (v := .ref q) (ty := .array .int) (C := R_S) (T := F_S) (N := 1) hx hb ht in_S ft_S fo_S nm_S hown hK hP hD hS w0.length h2 rfl 0 (by decide) (ht _ k_fl_S_9) (fun _ h9 => h9) rfl hin rfl (by decide +kernel) rfl rfl (Nat.le_of_ble_eq_true rfl) d_S_init_9 (fun H locs hP hD hS => ?_)
  have hP : va_P (xD G) CL (w1.set w0.length (a, .inr (1, [.ref q]))) H := hP
  have hD : va_D A (w1.set w0.length (a, .inr (1, [.ref q]))) := hD
  obtain ⟨w4, e_w4⟩ : ∃ zz : va_W, zz = w1.set w0.length (a, .inr (1, [.ref q])) := ⟨_, rfl⟩
  rw [← e_w4] at hP hD
  have h5 : w4[w0.length]? = some (a, .inr (1, [.ref q])) := by rw [e_w4]; exact w_eq h2
  have h6 : w4[ws.length]? = some (q, aI G 60 (fun _ => 0)) := by rw [e_w4]; exact w_ne (w_dif h2 h3 (by simp)) h3
  exact x_vret hx hb hr hlocks hS hP hD (Nat.le_of_ble_eq_true rfl) (Nat.le_of_ble_eq_true rfl) d_S_init_12 (⟨q, by rw [e_w4, e_w1, hw]; exact w_set0⟩)

set_option maxHeartbeats 4000000 in
set_option maxRecDepth 100000 in
theorem c_S_of (l : Launch) (G : xG) (A : Nat → Prop) (ws : va_W) (v : Nat) (hv : v < 60) : Met l y_S_ofVariable (cw_S_ofVariable :: TW) { frames := 2, cells := 2, slots := 61, locals := 52 } (va_Pc [.int (nI v)] (x_P G A ws)) (qR G A (mkS G ws (unit v))) 2 61 A := by
  refine Met.ofW (cc := b_S_ofVariable) (maxL := 2) (ret := (some (.object "ConstraintCompiler$Sum"))) (by decide) rfl ?_
  intro p e s m args below meth c s₁ B hml hv
  obtain ⟨rfl, hE, hA, hP, hD⟩ := hv
  have hx := B.exec
  have hb := B.bytes
  have hr := B.returns
  have ht : ∀ w ∈ TW, w.before _ s = true := fun w h => atoms_spec (ws := cw_S_ofVariable :: TW) B.pre w (List.mem_cons_of_mem _ h)
  have hown : s.vm.findClass R_S = some m.cls := findClass_of_methodNamed B.named
  have hlocks := B.notSynchronized
  have hK := hE.1
  have hS : va_S A s.heap s.heap [] := va_S.rf
  have hl := lv_entry ([.int (nI v)]) (n := 2) (Nat.le_of_ble_eq_true rfl)
  rw [lg_entry_eq]
  generalize (lg_sl ([.int (nI v)]) ++ List.replicate (2 - (lg_sl ([.int (nI v)])).length) Slot.unset).toArray = ls at hl ⊢
  have hl : lv_has ls 2 [(0, .int (nI v))] := hl
  refine va_new (ci := 1) (fs := [.null]) (C := R_S) (T := F_S) (N := 1) hx hb ht in_S ft_S fo_S hown (ht _ k_cl_S_10) (ht _ k_new_S) (ht _ k_in_S) hK hP hD hS hA rfl (fun j hj => by rcases (show j = 0 by omega) with rfl <;> rfl) (Nat.le_of_ble_eq_true rfl) (Nat.le_of_ble_eq_true rfl) d_S_ofVariable_0 (fun r H hP hD hS => ?_)
  refine W.widen (k := 1) (n := 1) (Nat.le_of_ble_eq_true rfl) (Nat.le_of_ble_eq_true rfl) ?_
  have hP : va_P (xD G) CL (ws ++ [(r, .inr (1, [.null]))]) H := hP
  have hD : va_D A (ws ++ [(r, .inr (1, [.null]))]) := hD
  obtain ⟨w1, e_w1⟩ : ∃ zz : va_W, zz = ws ++ [(r, .inr (1, [.null]))] := ⟨_, rfl⟩
  rw [← e_w1] at hP hD
  have h2 : w1[ws.length]? = some (r, .inr (1, [.null])) := by rw [e_w1]; exact w_new0
  refine lv_dup hx hb d_S_ofVariable_3 rfl ?_
  refine x_callv (va_runI (As := []) (rest := [.ref r]) ⟨hx, hb, hml, hown, ht⟩ (c_S_init l G A w1 ws r e_w1) (cwI 0 ht (TW_good k_code_S_init) rfl rfl rfl (ht _ k_in_S) (ht _ k_ml_S_15) (ht _ k_im_S_init) rfl hv_S_init.2 ⟨Nat.le_of_ble_eq_true rfl, Nat.le_of_ble_eq_true rfl⟩) ⟨x_blind, x_pre hE hA hS hP hD⟩ rfl rfl hl.1 rfl (lv_room (Nat.le_of_ble_eq_true rfl)) d_S_ofVariable_4 ⟨Nat.le_of_ble_eq_true rfl, Nat.le_of_ble_eq_true rfl⟩) hS (fun w4 H locs q3 hP hD hS => ?_)
  refine W.widen (k := 2) (n := 61) (Nat.le_of_ble_eq_true rfl) (Nat.le_of_ble_eq_true rfl) ?_
  obtain ⟨ca, hw⟩ := q3
  have g0 : w4[ws.length]? = some (r, .inr (1, [.ref ca])) := by rw [hw]; exact w_new0
  have g1 : w4[ws.length + 1]? = some (ca, aI G 60 (fun _ => 0)) := by rw [hw]; exact w_new1
  refine lv_astore_n (lv' := [(1, .ref r), (0, .int (nI v))]) hx hb d_S_ofVariable_7 rfl hl (by decide) rfl (fun ls hl => ?_)
  refine lv_aload_n hx hb d_S_ofVariable_8 rfl (lv_at hl 0 rfl) ?_
  refine va_get (D := xD G) (ci := 1) (C := R_S) (T := F_S) (N := 1) hx hb ht in_S hown hK hP ws.length g0 rfl 0 (by decide) (ht _ k_fl_S_9) (fun _ h9 => h9) rfl d_S_ofVariable_9 ?_
  refine lv_iload_n hx hb d_S_ofVariable_12 rfl (lv_at hl 1 rfl) ?_
  refine lv_iconst (v := (nI 1)) hx hb d_S_ofVariable_13 (by decide) ?_
  refine x_iast hx hb hK hP hD hS g1 v rfl (by omega) (by omega) d_S_ofVariable_14 (fun H locs hP hD hS => ?_)
  have hP : va_P (xD G) CL (w4.set (ws.length + 1) (ca, aI G 60 (upd (fun _ => 0) v (nI 1)))) H := hP
  have hD : va_D A (w4.set (ws.length + 1) (ca, aI G 60 (upd (fun _ => 0) v (nI 1)))) := hD
  obtain ⟨w5, e_w5⟩ : ∃ zz : va_W, zz = w4.set (ws.length + 1) (ca, aI G 60 (upd (fun _ => 0) v (nI 1))) := ⟨_, rfl⟩
  rw [← e_w5] at hP hD
  have h6 : w5[ws.length]? = some (r, .inr (1, [.ref ca])) := by rw [e_w5]; exact w_ne (w_dif g1 g0 (by simp)) g0
  have h7 : w5[(ws.length + 1)]? = some (ca, aI G 60 (upd (fun _ => 0) v (nI 1))) := by rw [e_w5]; exact w_eq g1
  refine lv_aload_n hx hb d_S_ofVariable_15 rfl (lv_at hl 0 rfl) ?_
  exact x_aret hx hb hr (Or.inl ⟨_, rfl⟩) hlocks hS hP hD (Nat.le_of_ble_eq_true rfl) (Nat.le_of_ble_eq_true rfl) d_S_ofVariable_16 (⟨ca, _, by rw [e_w5, hw]; exact w_set1, fun j hj => by unfold upd unit; split <;> rfl⟩)

set_option maxHeartbeats 4000000 in
set_option maxRecDepth 100000 in
theorem c_S_comb (l : Launch) (G : xG) (A : Nat → Prop) (ws : va_W) (o o2 p1 p2 : Nat) (f g : Nat → Nat) (hf : isS G ws o f) (hg : isS G ws o2 g) (hp1 : p1 < 97) (hp2 : p2 < 97) : Met l y_S_combinedWith (cw_S_combinedWith :: TW) { frames := 3, cells := 2, slots := 61, locals := 78 } (va_Pc [.ref o, .ref o2, .int (nI p1), .int (nI p2)] (x_P G A ws)) (qR G A (mkS G ws (cmb p1 f p2 g))) 2 61 A := by
  refine Met.ofW (cc := b_S_combinedWith) (maxL := 6) (ret := (some (.object "ConstraintCompiler$Sum"))) (by decide) rfl ?_
  intro p e s m args below meth c s₁ B hml hv
  obtain ⟨rfl, hE, hA, hP, hD⟩ := hv
  have hx := B.exec
  have hb := B.bytes
  have hr := B.returns
  have ht : ∀ w ∈ TW, w.before _ s = true := fun w h => atoms_spec (ws := cw_S_combinedWith :: TW) B.pre w (List.mem_cons_of_mem _ h)
  have hown : s.vm.findClass R_S = some m.cls := findClass_of_methodNamed B.named
  have hlocks := B.notSynchronized
  have hK := hE.1
  have hS : va_S A s.heap s.heap [] := va_S.rf
  have hl := lv_entry ([.ref o, .ref o2, .int (nI p1), .int (nI p2)]) (n := 6) (Nat.le_of_ble_eq_true rfl)
  rw [lg_entry_eq]
  generalize (lg_sl ([.ref o, .ref o2, .int (nI p1), .int (nI p2)]) ++ List.replicate (6 - (lg_sl ([.ref o, .ref o2, .int (nI p1), .int (nI p2)])).length) Slot.unset).toArray = ls at hl ⊢
  have hl : lv_has ls 6 [(0, .ref o), (1, .ref o2), (2, .int (nI p1)), (3, .int (nI p2))] := hl
  obtain ⟨k1, k1', ca1, f0, hf1, hf2, -, -, hf5, hf6⟩ := hf
  obtain ⟨k2, k2', ca2, g0, hg1, hg2, -, -, hg5, hg6⟩ := hg
  refine va_new (ci := 1) (fs := [.null]) (C := R_S) (T := F_S) (N := 1) hx hb ht in_S ft_S fo_S hown (ht _ k_cl_S_10) (ht _ k_new_S) (ht _ k_in_S) hK hP hD hS hA rfl (fun j hj => by rcases (show j = 0 by omega) with rfl <;> rfl) (Nat.le_of_ble_eq_true rfl) (Nat.le_of_ble_eq_true rfl) d_S_combinedWith_0 (fun r H hP hD hS => ?_)
  refine W.widen (k := 1) (n := 1) (Nat.le_of_ble_eq_true rfl) (Nat.le_of_ble_eq_true rfl) ?_
  have hP : va_P (xD G) CL (ws ++ [(r, .inr (1, [.null]))]) H := hP
  have hD : va_D A (ws ++ [(r, .inr (1, [.null]))]) := hD
  obtain ⟨w1, e_w1⟩ : ∃ zz : va_W, zz = ws ++ [(r, .inr (1, [.null]))] := ⟨_, rfl⟩
  rw [← e_w1] at hP hD
  have h2 : w1[ws.length]? = some (r, .inr (1, [.null])) := by rw [e_w1]; exact w_new0
  refine lv_dup hx hb d_S_combinedWith_3 rfl ?_
  refine x_callv (va_runI (As := []) (rest := [.ref r]) ⟨hx, hb, hml, hown, ht⟩ (c_S_init l G A w1 ws r e_w1) (cwI 0 ht (TW_good k_code_S_init) rfl rfl rfl (ht _ k_in_S) (ht _ k_ml_S_15) (ht _ k_im_S_init) rfl hv_S_init.2 ⟨Nat.le_of_ble_eq_true rfl, Nat.le_of_ble_eq_true rfl⟩) ⟨x_blind, x_pre hE hA hS hP hD⟩ rfl rfl hl.1 rfl (lv_room (Nat.le_of_ble_eq_true rfl)) d_S_combinedWith_4 ⟨Nat.le_of_ble_eq_true rfl, Nat.le_of_ble_eq_true rfl⟩) hS (fun w4 H locs q3 hP hD hS => ?_)
  refine W.widen (k := 2) (n := 61) (Nat.le_of_ble_eq_true rfl) (Nat.le_of_ble_eq_true rfl) ?_
  obtain ⟨ca, hw⟩ := q3
  subst hw
  refine lv_astore (lv' := [(4, .ref r), (0, .ref o), (1, .ref o2), (2, .int (nI p1)), (3, .int (nI p2))]) hx hb d_S_combinedWith_7 hl (by decide) rfl (fun ls hl => ?_)
  refine lv_iconst (v := (nI 0)) hx hb d_S_combinedWith_9 (by decide) ?_
  refine lv_istore (lv' := [(5, .int (nI 0)), (4, .ref r), (0, .ref o), (1, .ref o2), (2, .int (nI p1)), (3, .int (nI p2))]) hx hb d_S_combinedWith_10 hl (by decide) rfl (fun ls hl => ?_)
  have loop : ∀ (n i : Nat), i + n = 60 → ∀ (h : Nat → Int32) (H : Heap) (locs : List Loc) (ls : Array Slot), (∀ j, j < i → h j = nI (cmb p1 f p2 g j)) → va_P (xD G) CL (ws ++ [(r, .inr (1, [.ref ca])), (ca, aI G 60 h)]) H → va_D A (ws ++ [(r, .inr (1, [.ref ca])), (ca, aI G 60 h)]) → va_S A s.heap H locs → lv_has ls 6 [(5, .int (nI i)), (4, .ref r), (0, .ref o), (1, .ref o2), (2, .int (nI p1)), (3, .int (nI p2))] → W p l e (headSpec (cw_S_combinedWith :: TW) { frames := 3, cells := 2, slots := 61, locals := 78 }).room s m ([.ref o, .ref o2, .int (nI p1), .int (nI p2)] : List Value).toArray below meth c H locs 2 61 (MQ below (qR G A (mkS G ws (cmb p1 f p2 g))) ([.ref o, .ref o2, .int (nI p1), .int (nI p2)] : List Value).toArray s 2 61 A) (F0 m 12 ls []) := by
    intro n
    induction n with
    | zero =>
      intro i hi h H locs ls hh hP hD hS hl
      refine lv_iload hx hb d_S_combinedWith_12 (lv_at hl 0 rfl) ?_
      refine lv_bipush (v := (nI 60)) hx hb d_S_combinedWith_14 (by decide) ?_
      refine x_ge hx hb i 60 rfl rfl (by omega) (by omega) (tgt := 55) d_S_combinedWith_16 (by decide) (fun c5 => ?_) (fun c5 => ?_)
      · refine lv_aload hx hb d_S_combinedWith_55 (lv_at hl 1 rfl) ?_
        exact x_aret hx hb hr (Or.inl ⟨_, rfl⟩) hlocks hS hP hD (Nat.le_of_ble_eq_true rfl) (Nat.le_of_ble_eq_true rfl) d_S_combinedWith_57 (⟨ca, h, rfl, fun j hj => hh j (by omega)⟩)
      · exact False.elim (by omega)
    | succ n ih =>
      intro i hi h H locs ls hh hP hD hS hl
      refine lv_iload hx hb d_S_combinedWith_12 (lv_at hl 0 rfl) ?_
      refine lv_bipush (v := (nI 60)) hx hb d_S_combinedWith_14 (by decide) ?_
      refine x_ge hx hb i 60 rfl rfl (by omega) (by omega) (tgt := 55) d_S_combinedWith_16 (by decide) (fun c6 => ?_) (fun c6 => ?_)
      · exact False.elim (by omega)
      · obtain ⟨w9, e_w9⟩ : ∃ w : va_W, w = (ws ++ [(r, .inr (1, [.ref ca])), (ca, aI G 60 h)]) := ⟨_, rfl⟩
        rw [← e_w9] at hP hD
        have r0 : w9[ws.length]? = some (r, .inr (1, [.ref ca])) := by rw [e_w9]; exact w_new0
        have r1 : w9[ws.length + 1]? = some (ca, aI G 60 h) := by rw [e_w9]; exact w_new1
        have ihf1 := w_app (n := [(r, .inr (1, [.ref ca])), (ca, aI G 60 h)]) hf1
        rw [← e_w9] at ihf1
        have ihf2 := w_app (n := [(r, .inr (1, [.ref ca])), (ca, aI G 60 h)]) hf2
        rw [← e_w9] at ihf2
        have ihg1 := w_app (n := [(r, .inr (1, [.ref ca])), (ca, aI G 60 h)]) hg1
        rw [← e_w9] at ihg1
        have ihg2 := w_app (n := [(r, .inr (1, [.ref ca])), (ca, aI G 60 h)]) hg2
        rw [← e_w9] at ihg2
        refine lv_aload hx hb d_S_combinedWith_19 (lv_at hl 1 rfl) ?_
        refine va_get (D := xD G) (ci := 1) (C := R_S) (T := F_S) (N := 1) hx hb ht in_S hown hK hP ws.length r0 rfl 0 (by decide) (ht _ k_fl_S_9) (fun _ h9 => h9) rfl d_S_combinedWith_21 ?_
        refine lv_iload hx hb d_S_combinedWith_24 (lv_at hl 0 rfl) ?_
        refine lv_iload_n hx hb d_S_combinedWith_26 rfl (lv_at hl 4 rfl) ?_
        refine lv_aload_n hx hb d_S_combinedWith_27 rfl (lv_at hl 2 rfl) ?_
        refine va_get (D := xD G) (ci := 1) (C := R_S) (T := F_S) (N := 1) hx hb ht in_S hown hK hP k1 ihf1 rfl 0 (by decide) (ht _ k_fl_S_9) (fun _ h9 => h9) rfl d_S_combinedWith_28 ?_
        refine lv_iload hx hb d_S_combinedWith_31 (lv_at hl 0 rfl) ?_
        refine x_iald hx hb hK hP ihf2 i rfl (by omega) (by omega) d_S_combinedWith_33 ?_
        refine x_top (nI (f i)) (hf5 i (by omega)) ?_
        refine lv_imul hx hb d_S_combinedWith_34 ?_
        refine x_top (nI (p1 * (f i))) (pk_mul _ _) ?_
        refine lv_iload_n hx hb d_S_combinedWith_35 rfl (lv_at hl 5 rfl) ?_
        refine lv_aload_n hx hb d_S_combinedWith_36 rfl (lv_at hl 3 rfl) ?_
        refine va_get (D := xD G) (ci := 1) (C := R_S) (T := F_S) (N := 1) hx hb ht in_S hown hK hP k2 ihg1 rfl 0 (by decide) (ht _ k_fl_S_9) (fun _ h9 => h9) rfl d_S_combinedWith_37 ?_
        refine lv_iload hx hb d_S_combinedWith_40 (lv_at hl 0 rfl) ?_
        refine x_iald hx hb hK hP ihg2 i rfl (by omega) (by omega) d_S_combinedWith_42 ?_
        refine x_top (nI (g i)) (hg5 i (by omega)) ?_
        have m1 : p1 * f i ≤ 96 * 96 := Nat.mul_le_mul (by omega) (by have := hf6 i (by omega); omega)
        have m2 : p2 * g i ≤ 96 * 96 := Nat.mul_le_mul (by omega) (by have := hg6 i (by omega); omega)
        refine lv_imul hx hb d_S_combinedWith_43 ?_
        refine x_top (nI (p2 * (g i))) (pk_mul _ _) ?_
        refine lv_iadd hx hb d_S_combinedWith_44 ?_
        refine x_top (nI ((p1 * (f i)) + (p2 * (g i)))) (nI_add _ _) ?_
        refine x_calli (va_runSN (As := [.int (nI ((p1 * (f i)) + (p2 * (g i))))]) (rest := [.int (nI i), .ref ca]) (host := R_C) ⟨hx, hb, hml, hown, ht⟩ (c_remainder l G A w9 _) ⟨va_cnB 1 ht (TW_good k_code_C_remainder) rfl rfl rfl (hE.2.2.2.2.2.2.2 _ k_mn_S_20) (ht _ k_in_C) hv_C_remainder.2 ⟨Nat.le_of_ble_eq_true rfl, Nat.le_of_ble_eq_true rfl⟩, ht _ k_st_C_remainder, trivial⟩ ⟨x_blind, x_pre hE hA hS hP hD⟩ rfl rfl hl.1 rfl (lv_room (Nat.le_of_ble_eq_true rfl)) d_S_combinedWith_45 ⟨Nat.le_of_ble_eq_true rfl, Nat.le_of_ble_eq_true rfl⟩) hS (fun r9 w8 H locs q7 hP hD hS => ?_)
        obtain ⟨rfl, rfl⟩ := q7
        refine x_top (nI (cmb p1 f p2 g i)) (by rw [rm_nat (by omega)]; rfl) ?_
        refine x_iast hx hb hK hP hD hS r1 i rfl (by omega) (by omega) d_S_combinedWith_48 (fun H locs hP hD hS => ?_)
        have hP : va_P (xD G) CL (w9.set (ws.length + 1) (ca, aI G 60 (upd h i (nI (cmb p1 f p2 g i))))) H := hP
        have hD : va_D A (w9.set (ws.length + 1) (ca, aI G 60 (upd h i (nI (cmb p1 f p2 g i))))) := hD
        obtain ⟨w10, e_w10⟩ : ∃ zz : va_W, zz = w9.set (ws.length + 1) (ca, aI G 60 (upd h i (nI (cmb p1 f p2 g i)))) := ⟨_, rfl⟩
        rw [← e_w10] at hP hD
        have h11 : w10[(ws.length + 1)]? = some (ca, aI G 60 (upd h i (nI (cmb p1 f p2 g i)))) := by rw [e_w10]; exact w_eq r1
        refine lv_iinc (v := nI (i + 1)) (lv' := [(5, .int (nI (i + 1))), (4, .ref r), (0, .ref o), (1, .ref o2), (2, .int (nI p1)), (3, .int (nI p2))]) hx hb d_S_combinedWith_49 hl (k := 0) rfl (n_inc _) (by decide) rfl (fun ls hl => ?_)
        refine lv_goto (tgt := 12) hx hb d_S_combinedWith_52 (by decide) ?_
        rw [e_w10, e_w9, w_set1] at hP hD
        refine ih (i + 1) (by omega) _ H locs ls (fun j hj => ?_) hP hD hS (lv_sub hl [0, 1, 2, 3, 4, 5] rfl)
        unfold upd
        split
        · next e => rw [e]
        · exact hh j (by omega)
  exact loop 60 0 (by decide) _ H locs ls (fun j hj => by omega) hP hD hS hl
