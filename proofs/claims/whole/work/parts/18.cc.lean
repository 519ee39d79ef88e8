theorem CCs.x {G : xG} {ws : va_W} {o z u lv le lk : Nat} {V : List VV} {E : List EE} {K : List KK} {inp : Nat} {w d : Nat → Nat} {wV wC : Nat} (h : CCs G ws o z u lv le lk V E K inp w d wV wC) (inp2 : Nat) : ∃ wa da : Nat, ws[0]? = some (o, .inr (0, [.ref z, .ref u, .ref lv, .ref le, .ref lk, .int (nI inp), .ref wa, .ref da, .int (nI wV), .int (nI wC)])) ∧ CCs G (ws.set 0 (o, .inr (0, [.ref z, .ref u, .ref lv, .ref le, .ref lk, .int (nI inp2), .ref wa, .ref da, .int (nI wV), .int (nI wC)]))) o z u lv le lk V E K inp2 w d wV wC ∧ kp ws (ws.set 0 (o, .inr (0, [.ref z, .ref u, .ref lv, .ref le, .ref lk, .int (nI inp2), .ref wa, .ref da, .int (nI wV), .int (nI wC)]))) := by
  obtain ⟨wa, da, kV, kE, kK, gV, gE, gK, h⟩ := h
  have h2 := CCx.put0 (inp2 := inp2) (wV2 := wV) (wC2 := wC) h h.2.2.2.2.2.2.2.2.2.2.2.1
  exact ⟨wa, da, h.1, ⟨_, _, _, _, _, _, _, _, h2.1⟩, h2.2⟩
theorem isS.setE {G : xG} {ws : va_W} {a k0 ea : Nat} {f : Nat → Nat} {fs : List Value} {x : Nat × va_E} (h : isS G ws a f) (h0 : ws[k0]? = some (ea, .inr (3, fs))) : isS G (ws.set k0 x) a f := by
  obtain ⟨k, k', ca, hh, h1, h2, h3⟩ := h
  exact ⟨k, k', ca, hh, w_ne (w_dif h0 h1 (by simp)) h1, w_ne (w_dif h0 h2 (by simp)) h2, h3⟩
theorem isL.setE {G : xG} {ws : va_W} {k0 ea kl al n : Nat} {ka : Option Nat} {g : Nat → Nat} {fs : List Value} {x : Nat × va_E} (h : isL G ws kl ka al n g) (h0 : ws[k0]? = some (ea, .inr (3, fs))) : isL G (ws.set k0 x) kl ka al n g := by
  obtain ⟨mo, ea2, q0, qd⟩ := h
  refine ⟨mo, ea2, w_ne (w_dif h0 q0 (by simp)) q0, ?_⟩
  rcases qd with h | ⟨k, cap, f, e1, e2, e3⟩
  · exact Or.inl h
  · exact Or.inr ⟨k, cap, f, e1, w_ne (w_dif h0 e2 (by simp)) e2, e3⟩
theorem CCs.setE {G : xG} {ws : va_W} {o z u lv le lk : Nat} {V : List VV} {E : List EE} {K : List KK} {inp : Nat} {w d : Nat → Nat} {wV wC : Nat} (h : CCs G ws o z u lv le lk V E K inp w d wV wC) {k0 ea : Nat} {x0 : Value} (h0 : ws[k0]? = some (ea, .inr (3, [.null, x0]))) (x : va_E) : CCs G (ws.set k0 (ea, x)) o z u lv le lk V E K inp w d wV wC := by
  obtain ⟨wa, da, kV, kE, kK, gV, gE, gK, h1, h2, h3, h4, h5, h6, h7, h8, h9, h10, h11, h12, h13⟩ := h
  refine ⟨wa, da, kV, kE, kK, gV, gE, gK, w_ne (w_dif h0 h1 (by simp)) h1, h2.setE h0, h3.setE h0, h4.setE h0, h5.setE h0, h6.setE h0, ?_, ?_, ?_, h10, h11, ?_, by rw [w_setlen]; exact h13⟩
  · intro i y hy
    obtain ⟨k, la, ra, e1, e2, e3⟩ := h7 i y hy
    exact ⟨k, la, ra, w_ne (w_dif h0 e1 (by simp)) e1, e2.setE h0, e3.setE h0⟩
  · intro i y hy
    obtain ⟨k, sa, e1, e2⟩ := h8 i y hy
    exact ⟨k, sa, w_ne (w_dif h0 e1 (by simp)) e1, e2.setE h0⟩
  · intro i y hy
    obtain ⟨k, xa, ya, za, e1, e2, e3, e4⟩ := h9 i y hy
    exact ⟨k, xa, ya, za, w_ne (w_dif h0 e1 (by simp)) e1, e2.setE h0, e3.setE h0, e4.setE h0⟩
  · obtain ⟨kw, kd, hw, hd, e0, e1, e2, e3⟩ := h12
    exact ⟨kw, kd, hw, hd, e0, w_ne (w_dif h0 e1 (by simp)) e1, w_ne (w_dif h0 e2 (by simp)) e2, e3⟩
theorem powS_succ (n : Nat) (s : VK) (cur base : Nat → Nat) : powS (n + 1) s cur base = powS n (prodS s cur base).1 (prodS s cur base).2 base := rfl

set_option maxHeartbeats 4000000 in
set_option maxRecDepth 100000 in
theorem c_mpow (l : Launch) (G : xG) (A : Nat → Prop) (ws : va_W) (o z u lv le lk : Nat) (V : List VV) (E : List EE) (K : List KK) (inp : Nat) (w d : Nat → Nat) (wV wC : Nat) (hR : CCs G ws o z u lv le lk V E K inp w d wV wC) (la b : Nat) (f : Nat → Nat) (hf : isS G ws la f) (hb1 : 1 ≤ b) (hb5 : b ≤ 5) (bV : V.length + (b - 1) * cp f f ≤ 60) (bK : K.length + (b - 1) * cp f f ≤ 80) : Met l y_C_makePower (cw_C_makePower :: TW) { frames := 11, cells := 24, slots := 1472, locals := 286 } (va_Pc [.ref o, .ref la, .int (nI b)] (x_P G A ws)) (qR G A (fun r w9 => isS G w9 r (powS (b - 1) (V, K) f f).2 ∧ CCs G w9 o z u lv le lk (powS (b - 1) (V, K) f f).1.1 E (powS (b - 1) (V, K) f f).1.2 inp w d wV wC ∧ kp ws w9)) 24 1472 A := by
  refine Met.ofW (cc := b_C_makePower) (maxL := 5) (ret := (some (.object "ConstraintCompiler$Sum"))) (by decide) rfl ?_
  intro p e s m args below meth c s₁ B hml hv
  obtain ⟨rfl, hE, hA, hP, hD⟩ := hv
  have hx := B.exec
  have hb := B.bytes
  have hr := B.returns
  have ht : ∀ w ∈ TW, w.before _ s = true := fun w h => atoms_spec (ws := cw_C_makePower :: TW) B.pre w (List.mem_cons_of_mem _ h)
  have hown : s.vm.findClass R_C = some m.cls := findClass_of_methodNamed B.named
  have hlocks := B.notSynchronized
  have hK := hE.1
  have hS : va_S A s.heap s.heap [] := va_S.rf
  have hl := lv_entry ([.ref o, .ref la, .int (nI b)]) (n := 5) (Nat.le_of_ble_eq_true rfl)
  rw [lg_entry_eq]
  generalize (lg_sl ([.ref o, .ref la, .int (nI b)]) ++ List.replicate (5 - (lg_sl ([.ref o, .ref la, .int (nI b)])).length) Slot.unset).toArray = ls at hl ⊢
  have hl : lv_has ls 5 [(0, .ref o), (1, .ref la), (2, .int (nI b))] := hl
  obtain ⟨wa0, da0, ho0⟩ := CCs.o hR
  refine lv_aload_n hx hb d_C_makePower_0 rfl (lv_at hl 1 rfl) ?_
  refine lv_astore_n (lv' := [(3, .ref la), (0, .ref o), (1, .ref la), (2, .int (nI b))]) hx hb d_C_makePower_1 rfl hl (by decide) rfl (fun ls hl => ?_)
  refine lv_iconst (v := (nI 1)) hx hb d_C_makePower_2 (by decide) ?_
  refine lv_istore (lv' := [(4, .int (nI 1)), (3, .ref la), (0, .ref o), (1, .ref la), (2, .int (nI b))]) hx hb d_C_makePower_3 hl (by decide) rfl (fun ls hl => ?_)
  have loop : ∀ (n i : Nat), i + n = b → 1 ≤ i → ∀ (V1 : List VV) (K1 : List KK) (cur : Nat → Nat) (ra : Nat) (w9 : va_W) (H : Heap) (locs : List Loc) (ls : Array Slot), powS n (V1, K1) cur f = powS (b - 1) (V, K) f f → V1.length ≤ V.length + (i - 1) * cp f f → K1.length ≤ K.length + (i - 1) * cp f f → isS G w9 ra cur → CCs G w9 o z u lv le lk V1 E K1 inp w d wV wC → kp ws w9 → va_P (xD G) CL w9 H → va_D A w9 → va_S A s.heap H locs → lv_has ls 5 [(4, .int (nI i)), (3, .ref ra), (0, .ref o), (1, .ref la), (2, .int (nI b))] → W p l e (headSpec (cw_C_makePower :: TW) { frames := 11, cells := 24, slots := 1472, locals := 286 }).room s m ([.ref o, .ref la, .int (nI b)] : List Value).toArray below meth c H locs (6 * (i - 1)) (368 * (i - 1)) (MQ below (qR G A (fun r w9 => isS G w9 r (powS (b - 1) (V, K) f f).2 ∧ CCs G w9 o z u lv le lk (powS (b - 1) (V, K) f f).1.1 E (powS (b - 1) (V, K) f f).1.2 inp w d wV wC ∧ kp ws w9)) ([.ref o, .ref la, .int (nI b)] : List Value).toArray s 24 1472 A) (F0 m 5 ls []) := by
    intro n
    induction n with
    | zero =>
      intro i hi hi1 V1 K1 cur ra w9 H locs ls he hlV hlK hc hR1 kk hP hD hS hl
      refine lv_iload hx hb d_C_makePower_5 (lv_at hl 0 rfl) ?_
      refine lv_iload_n hx hb d_C_makePower_7 rfl (lv_at hl 4 rfl) ?_
      refine x_ge hx hb i b rfl rfl (by omega) (by omega) (tgt := 24) d_C_makePower_8 (by decide) (fun c1 => ?_) (fun c1 => ?_)
      · refine lv_aload_n hx hb d_C_makePower_24 rfl (lv_at hl 1 rfl) ?_
        have e9 : powS (b - 1) (V, K) f f = ((V1, K1), cur) := he.symm
        exact x_aret hx hb hr (Or.inl ⟨_, rfl⟩) hlocks hS hP hD (by omega) (by omega) d_C_makePower_25 (by rw [e9]; exact ⟨hc, hR1, kk⟩)
      · exact False.elim (by omega)
    | succ n ih =>
      intro i hi hi1 V1 K1 cur ra w9 H locs ls he hlV hlK hc hR1 kk hP hD hS hl
      refine lv_iload hx hb d_C_makePower_5 (lv_at hl 0 rfl) ?_
      refine lv_iload_n hx hb d_C_makePower_7 rfl (lv_at hl 4 rfl) ?_
      refine x_ge hx hb i b rfl rfl (by omega) (by omega) (tgt := 24) d_C_makePower_8 (by decide) (fun c2 => ?_) (fun c2 => ?_)
      · exact False.elim (by omega)
      · have cr := cp_right cur f
        have m1 : i * cp f f ≤ (b - 1) * cp f f := Nat.mul_le_mul (by omega) (Nat.le_refl _)
        have m2 : i * cp f f = (i - 1) * cp f f + cp f f := by rw [show i = (i - 1) + 1 by omega, Nat.add_mul, Nat.one_mul, Nat.add_sub_cancel]
        obtain ⟨wa1, da1, ho1⟩ := CCs.o hR1
        refine lv_aload_n hx hb d_C_makePower_11 rfl (lv_at hl 2 rfl) ?_
        refine lv_aload_n hx hb d_C_makePower_12 rfl (lv_at hl 1 rfl) ?_
        refine lv_aload_n hx hb d_C_makePower_13 rfl (lv_at hl 3 rfl) ?_
        refine x_callr (va_runV (As := [.ref ra, .ref la]) (rest := []) ⟨hx, hb, hml, hown, ht⟩ (c_mprod l G A w9 o z u lv le lk V1 E K1 inp w d wV wC hR1 ra la cur f hc (hf.kp kk) (by omega) (by omega)) (cwV 2 ht (TW_V k_ml_C_202 k_im_C_makeProduct k_se_C_makeProduct k_in_C k_code_C_makeProduct) rfl rfl rfl hv_C_makeProduct ⟨Nat.le_of_ble_eq_true rfl, Nat.le_of_ble_eq_true rfl⟩) ⟨x_blind, va_recv hK hP rfl ho1, x_pre hE hA hS hP hD⟩ rfl rfl hl.1 rfl (lv_room (Nat.le_of_ble_eq_true rfl)) d_C_makePower_14 ⟨by show 6 * (i - 1) + 6 ≤ 24; omega, by show 368 * (i - 1) + 368 ≤ 1472; omega⟩) hS (fun r5 w4 H locs q3 hP hD hS => ?_)
        refine W.widen (k := 6 * (i + 1 - 1)) (n := 368 * (i + 1 - 1)) (by omega) (by omega) ?_
        obtain ⟨i2, hR2, kk2⟩ := q3
        obtain ⟨z1, z2⟩ := prodS_len (V1, K1) cur f
        refine lv_astore_n (lv' := [(3, .ref r5), (4, .int (nI i)), (0, .ref o), (1, .ref la), (2, .int (nI b))]) hx hb d_C_makePower_17 rfl hl (by decide) rfl (fun ls hl => ?_)
        refine lv_iinc (v := nI (i + 1)) (lv' := [(4, .int (nI (i + 1))), (3, .ref r5), (0, .ref o), (1, .ref la), (2, .int (nI b))]) hx hb d_C_makePower_18 hl (k := 1) rfl (n_inc _) (by decide) rfl (fun ls hl => ?_)
        refine lv_goto (tgt := 5) hx hb d_C_makePower_21 (by decide) ?_
        exact ih (i + 1) (by omega) (by omega) _ _ _ r5 w4 H locs ls (by rw [← he]; rfl) (by rw [z1, Nat.add_sub_cancel]; show V1.length + _ ≤ _; omega) (by rw [z2, Nat.add_sub_cancel]; show K1.length + _ ≤ _; omega) i2 hR2 (kk.tr kk2) hP hD hS (lv_sub hl [0, 1, 2, 3, 4] rfl)
  exact loop (b - 1) 1 (by omega) (by decide) V K f la ws s.heap [] ls rfl (by omega) (by omega) hf hR kp.rf hP hD hS hl

set_option maxHeartbeats 4000000 in
set_option maxRecDepth 100000 in
theorem c_minput (l : Launch) (G : xG) (A : Nat → Prop) (ws : va_W) (o z u lv le lk : Nat) (V : List VV) (E : List EE) (K : List KK) (inp : Nat) (w d : Nat → Nat) (wV wC : Nat) (hR : CCs G ws o z u lv le lk V E K inp w d wV wC) (bV : V.length < 60) (bI : inp < 1000) : Met l y_C_makeInput (cw_C_makeInput :: TW) { frames := 9, cells := 5, slots := 217, locals := 234 } (va_Pc [.ref o] (x_P G A ws)) (qR G A (fun r w9 => isE G w9 r (unit V.length, V.length) ∧ CCs G w9 o z u lv le lk (V ++ [(1, zr, zr, 0)]) E K (inp + 1) w d wV wC ∧ kp ws w9)) 5 217 A := by
  refine Met.ofW (cc := b_C_makeInput) (maxL := 2) (ret := (some (.object "ConstraintCompiler$Expression"))) (by decide) rfl ?_
  intro p e s m args below meth c s₁ B hml hv
  obtain ⟨rfl, hE, hA, hP, hD⟩ := hv
  have hx := B.exec
  have hb := B.bytes
  have hr := B.returns
  have ht : ∀ w ∈ TW, w.before _ s = true := fun w h => atoms_spec (ws := cw_C_makeInput :: TW) B.pre w (List.mem_cons_of_mem _ h)
  have hown : s.vm.findClass R_C = some m.cls := findClass_of_methodNamed B.named
  have hlocks := B.notSynchronized
  have hK := hE.1
  have hS : va_S A s.heap s.heap [] := va_S.rf
  have hl := lv_entry ([.ref o]) (n := 2) (Nat.le_of_ble_eq_true rfl)
  rw [lg_entry_eq]
  generalize (lg_sl ([.ref o]) ++ List.replicate (2 - (lg_sl ([.ref o])).length) Slot.unset).toArray = ls at hl ⊢
  have hl : lv_has ls 2 [(0, .ref o)] := hl
  obtain ⟨wa0, da0, ho0⟩ := CCs.o hR
  refine lv_aload_n hx hb d_C_makeInput_0 rfl (lv_at hl 0 rfl) ?_
  refine lv_iconst (v := (nI 1)) hx hb d_C_makeInput_1 (by decide) ?_
  refine lv_aload_n hx hb d_C_makeInput_2 rfl (lv_at hl 0 rfl) ?_
  refine va_get (D := xD G) (ci := 0) (C := R_C) (T := F_C) (N := 10) hx hb ht in_C hown hK hP 0 ho0 rfl 0 (by decide) (ht _ k_fl_C_12) (fun _ h9 => h9) rfl d_C_makeInput_3 ?_
  refine lv_aload_n hx hb d_C_makeInput_6 rfl (lv_at hl 0 rfl) ?_
  refine va_get (D := xD G) (ci := 0) (C := R_C) (T := F_C) (N := 10) hx hb ht in_C hown hK hP 0 ho0 rfl 0 (by decide) (ht _ k_fl_C_12) (fun _ h9 => h9) rfl d_C_makeInput_7 ?_
  refine x_calli (va_runV (As := [.int (nI 1), .ref z, .ref z]) (rest := []) ⟨hx, hb, hml, hown, ht⟩ (c_addV l G A ws o z u lv le lk V E K inp w d wV wC hR (by omega) 1 z z zr zr hR.z.1 hR.z.1) (cwV 3 ht (TW_V k_ml_C_195 k_im_C_addVariable k_se_C_addVariable k_in_C k_code_C_addVariable) rfl rfl rfl hv_C_addVariable ⟨Nat.le_of_ble_eq_true rfl, Nat.le_of_ble_eq_true rfl⟩) ⟨x_blind, va_recv hK hP rfl ho0, x_pre hE hA hS hP hD⟩ rfl rfl hl.1 rfl (lv_room (Nat.le_of_ble_eq_true rfl)) d_C_makeInput_10 ⟨Nat.le_of_ble_eq_true rfl, Nat.le_of_ble_eq_true rfl⟩) hS (fun r3 w2 H locs q1 hP hD hS => ?_)
  refine W.widen (k := 2) (n := 154) (Nat.le_of_ble_eq_true rfl) (Nat.le_of_ble_eq_true rfl) ?_
  obtain ⟨rfl, hR1, kk1⟩ := q1
  obtain ⟨wa1, da1, ho1, hR2, kk2⟩ := hR1.x (inp + 1)
  refine lv_istore_n (lv' := [(1, .int (nI V.length)), (0, .ref o)]) hx hb d_C_makeInput_13 rfl hl (by decide) rfl (fun ls hl => ?_)
  refine lv_aload_n hx hb d_C_makeInput_14 rfl (lv_at hl 1 rfl) ?_
  refine lv_dup hx hb d_C_makeInput_15 rfl ?_
  refine va_get (D := xD G) (ci := 0) (C := R_C) (T := F_C) (N := 10) hx hb ht in_C hown hK hP 0 ho1 rfl 5 (by decide) (ht _ k_fl_C_172) (fun _ h9 => h9) rfl d_C_makeInput_16 ?_
  refine lv_iconst (v := (nI 1)) hx hb d_C_makeInput_19 (by decide) ?_
  refine lv_iadd hx hb d_C_makeInput_20 ?_
  refine x_top (nI (inp + 1)) (nI_add _ _) ?_
  refine va_put (D := xD G) (ci := 0) (v := .int (nI (inp + 1))) (ty := .int) (C := R_C) (T := F_C) (N := 10) hx hb ht in_C ft_C fo_C nm_C hown hK hP hD hS 0 ho1 rfl 5 (by decide) (ht _ k_fl_C_172) (fun _ h9 => h9) rfl (by decide +kernel) rfl rfl (Nat.le_of_ble_eq_true rfl) d_C_makeInput_21 (fun H locs hP hD hS => ?_)
  have hP : va_P (xD G) CL (w2.set 0 (o, .inr (0, [.ref z, .ref u, .ref lv, .ref le, .ref lk, .int (nI (inp + 1)), .ref wa1, .ref da1, .int (nI wV), .int (nI wC)]))) H := hP
  have hD : va_D A (w2.set 0 (o, .inr (0, [.ref z, .ref u, .ref lv, .ref le, .ref lk, .int (nI (inp + 1)), .ref wa1, .ref da1, .int (nI wV), .int (nI wC)]))) := hD
  obtain ⟨w4, e_w4⟩ : ∃ zz : va_W, zz = w2.set 0 (o, .inr (0, [.ref z, .ref u, .ref lv, .ref le, .ref lk, .int (nI (inp + 1)), .ref wa1, .ref da1, .int (nI wV), .int (nI wC)])) := ⟨_, rfl⟩
  rw [← e_w4] at hP hD
  have h5 : w4[0]? = some (o, .inr (0, [.ref z, .ref u, .ref lv, .ref le, .ref lk, .int (nI (inp + 1)), .ref wa1, .ref da1, .int (nI wV), .int (nI wC)])) := by rw [e_w4]; exact w_eq ho1
  rw [← e_w4] at hR2 kk2
  refine va_new (ci := 3) (fs := [.null, .int 0]) (C := R_E) (T := F_E) (N := 2) hx hb ht in_E ft_E fo_E hown (ht _ k_cl_C_69) (ht _ k_new_E) (ht _ k_in_E) hK hP hD hS hA rfl (fun j hj => by rcases (show j = 0 ∨ j = 1 by omega) with rfl | rfl <;> rfl) (Nat.le_of_ble_eq_true rfl) (Nat.le_of_ble_eq_true rfl) d_C_makeInput_24 (fun ea H hP hD hS => ?_)
  refine W.widen (k := 3) (n := 156) (Nat.le_of_ble_eq_true rfl) (Nat.le_of_ble_eq_true rfl) ?_
  have hP : va_P (xD G) CL (w4 ++ [(ea, .inr (3, [.null, .int 0]))]) H := hP
  have hD : va_D A (w4 ++ [(ea, .inr (3, [.null, .int 0]))]) := hD
  obtain ⟨w6, e_w6⟩ : ∃ zz : va_W, zz = w4 ++ [(ea, .inr (3, [.null, .int 0]))] := ⟨_, rfl⟩
  rw [← e_w6] at hP hD
  have h7 : w6[0]? = some (o, .inr (0, [.ref z, .ref u, .ref lv, .ref le, .ref lk, .int (nI (inp + 1)), .ref wa1, .ref da1, .int (nI wV), .int (nI wC)])) := by rw [e_w6]; exact w_app h5
  have h8 : w6[w4.length]? = some (ea, .inr (3, [.null, .int 0])) := by rw [e_w6]; exact w_new0
  have hR3 := hR2.app (n := [(ea, .inr (3, [.null, .int 0]))])
  rw [← e_w6] at hR3
  have kk3 : kp w4 w6 := by rw [e_w6]; exact kp.app
  refine lv_dup hx hb d_C_makeInput_27 rfl ?_
  refine lv_iload_n hx hb d_C_makeInput_28 rfl (lv_at hl 0 rfl) ?_
  refine x_callr (va_runS (As := [.int (nI V.length)]) (rest := [.ref ea, .ref ea]) ⟨hx, hb, hml, hown, ht⟩ (c_S_of l G A w6 V.length bV) (va_cwS 1 ht (TW_S k_ml_C_16 k_st_S_ofVariable k_in_S k_code_S_ofVariable) rfl rfl rfl hv_S_ofVariable.2 ⟨Nat.le_of_ble_eq_true rfl, Nat.le_of_ble_eq_true rfl⟩) ⟨x_blind, x_pre hE hA hS hP hD⟩ rfl rfl hl.1 rfl (lv_room (Nat.le_of_ble_eq_true rfl)) d_C_makeInput_29 ⟨Nat.le_of_ble_eq_true rfl, Nat.le_of_ble_eq_true rfl⟩) hS (fun r11 w10 H locs q9 hP hD hS => ?_)
  refine W.widen (k := 5) (n := 217) (Nat.le_of_ble_eq_true rfl) (Nat.le_of_ble_eq_true rfl) ?_
  obtain ⟨hR4, kk4, iS⟩ := mkS_CC hR3 q9 (fun j _ => unit_lt _ j)
  have he4 := kk4 _ _ _ h8 (hard_o (Or.inr (Or.inr (Or.inl rfl))))
  refine lv_iload_n hx hb d_C_makeInput_32 rfl (lv_at hl 0 rfl) ?_
  refine x_callv (va_runI (As := [.ref r11, .int (nI V.length)]) (rest := [.ref ea]) ⟨hx, hb, hml, hown, ht⟩ (c_E_init l G A w10 w4.length ea r11 (nI V.length) he4) (cwI 2 ht (TW_good k_code_E_init) rfl rfl rfl (ht _ k_in_E) (ht _ k_ml_C_75) (ht _ k_im_E_init) rfl hv_E_init.2 ⟨Nat.le_of_ble_eq_true rfl, Nat.le_of_ble_eq_true rfl⟩) ⟨x_blind, x_pre hE hA hS hP hD⟩ rfl rfl hl.1 rfl (lv_room (Nat.le_of_ble_eq_true rfl)) d_C_makeInput_33 ⟨Nat.le_of_ble_eq_true rfl, Nat.le_of_ble_eq_true rfl⟩) hS (fun w13 H locs q12 hP hD hS => ?_)
  have hR5 := CCs.setE hR4 he4 (.inr (3, [.ref r11, .int (nI V.length)]))
  rw [← q12] at hR5
  have hh5 : w13[w4.length]? = some (ea, .inr (3, [.ref r11, .int (nI V.length)])) := by rw [q12]; exact w_eq he4
  have iS5 : isS G w13 r11 (unit V.length) := by rw [q12]; exact iS.setE he4
  have kk5 : kp w4 w13 := fun k a e hk hh => by rw [q12]; exact w_ne (by have := w_lt hk; omega) ((kk3.tr kk4) k a e hk hh)
  exact x_aret hx hb hr (Or.inl ⟨_, rfl⟩) hlocks hS hP hD (Nat.le_of_ble_eq_true rfl) (Nat.le_of_ble_eq_true rfl) d_C_makeInput_36 (⟨⟨_, _, hh5, iS5⟩, hR5, (kk1.tr kk2).tr kk5⟩)
