theorem CCs.x {G : xG} {ws : va_W} {o z u lv le lk : Nat} {V : List VV} {E : List EE} {K : List KK} {inp : Nat} {w d : Nat → Nat} {wV wC : Nat} (h : CCs G ws o z u lv le lk V E K inp w d wV wC) (inp2 : Nat) : ∃ wa da : Nat, ws[0]? = some (o, .inr (0, [.ref z, .ref u, .ref lv, .ref le, .ref lk, .int (nI inp), .ref wa, .ref da, .int (nI wV), .int (nI wC)])) ∧ CCs G (ws.set 0 (o, .inr (0, [.ref z, .ref u, .ref lv, .ref le, .ref lk, .int (nI inp2), .ref wa, .ref da, .int (nI wV), .int (nI wC)]))) o z u lv le lk V E K inp2 w d wV wC ∧ kp ws (ws.set 0 (o, .inr (0, [.ref z, .ref u, .ref lv, .ref le, .ref lk, .int (nI inp2), .ref wa, .ref da, .int (nI wV), .int (nI wC)]))) := by
  obtain ⟨wa, da, kV, kE, kK, gV, gE, gK, h⟩ := h
  have h2 := CCx.put0 (inp2 := inp2) (wV2 := wV) (wC2 := wC) h h.2.2.2.2.2.2.2.2.2.2.2.1
  exact ⟨wa, da, h.1, ⟨_, _, _, _, _, _, _, _, h2.1⟩, h2.2⟩
theorem powS_succ (n : Nat) (s : VK) (cur base : Nat → Nat) : powS (n + 1) s cur base = powS n (prodS s cur base).1 (prodS s cur base).2 base := rfl

set_option maxHeartbeats 4000000 in
set_option maxRecDepth 100000 in
theorem c_mpow (l : Launch) (G : xG) (A : Nat → Prop) (ws : va_W) (o z u lv le lk : Nat) (V : List VV) (E : List EE) (K : List KK) (inp : Nat) (w d : Nat → Nat) (wV wC : Nat) (hR : CCs G ws o z u lv le lk V E K inp w d wV wC) (la b : Nat) (f : Nat → Nat) (hf : isS G ws la f) (hb1 : 1 ≤ b) (hb5 : b ≤ 5) (bV : V.length + (b - 1) * cp f f ≤ 60) (bK : K.length + (b - 1) * cp f f ≤ 80) : Met l y_C_makePower (cw_C_makePower :: TW) { frames := 11, cells := 24, slots := 1472, locals := 286 } (va_Pc [.ref o, .ref la, .int (nI b)] (x_P G A ws)) (qR G A (fun r w9 => isS G w9 r (powS (b - 1) (V, K) f f).2 ∧ CCs G w9 o z u lv le lk (powS (b - 1) (V, K) f f).1.1 E (powS (b - 1) (V, K) f f).1.2 inp w d wV wC ∧ kp ws w9)) 24 1472 A := by
  refine Met.ofW (cc := b_C_makePower) (maxL := 5) (ret := (some (.object "ConstraintCompiler$Sum"))) (by decide) rfl ?_
  intro p e s m args below meth c s₁ B hml hv
  obtain ⟨rfl, hE, hA, hP, hD⟩ := hv
  have hx := B.exec
  have hb := B.bytes
  have hr := B.returns
  have ht : ∀ w ∈ TW, w.before _ s = true := fun w h => atoms_spec (ws := cw_C_makePower :: TW) B.pre w (List.mem_cons_of_mem _ h)
  have hown : s.vm.findClass R_C = some m.cls := findClass_of_methodNamed B.named
  have hlocks := B.notSynchronized
  have hK := hE.1
  have hS : va_S A s.heap s.heap [] := va_S.rf
  have hl := lv_entry ([.ref o, .ref la, .int (nI b)]) (n := 5) (Nat.le_of_ble_eq_true rfl)
  rw [lg_entry_eq]
  generalize (lg_sl ([.ref o, .ref la, .int (nI b)]) ++ List.replicate (5 - (lg_sl ([.ref o, .ref la, .int (nI b)])).length) Slot.unset).toArray = ls at hl ⊢
  have hl : lv_has ls 5 [(0, .ref o), (1, .ref la), (2, .int (nI b))] := hl
  obtain ⟨wa0, da0, ho0⟩ := CCs.o hR
  refine lv_aload_n hx hb d_C_makePower_0 rfl (lv_at hl 1 rfl) ?_
  refine lv_astore_n (lv' := [(3, .ref la), (0, .ref o), (1, .ref la), (2, .int (nI b))]) hx hb d_C_makePower_1 rfl hl (by decide) rfl (fun ls hl => ?_)
  refine lv_iconst (v := (nI 1)) hx hb d_C_makePower_2 (by decide) ?_
  refine lv_istore (lv' := [(4, .int (nI 1)), (3, .ref la), (0, .ref o), (1, .ref la), (2, .int (nI b))]) hx hb d_C_makePower_3 hl (by decide) rfl (fun ls hl => ?_)
  have loop : ∀ (n i : Nat), i + n = b → 1 ≤ i → ∀ (V1 : List VV) (K1 : List KK) (cur : Nat → Nat) (ra : Nat) (w9 : va_W) (H : Heap) (locs : List Loc) (ls : Array Slot), powS n (V1, K1) cur f = powS (b - 1) (V, K) f f → V1.length ≤ V.length + (i - 1) * cp f f → K1.length ≤ K.length + (i - 1) * cp f f → isS G w9 ra cur → CCs G w9 o z u lv le lk V1 E K1 inp w d wV wC → kp ws w9 → va_P (xD G) CL w9 H → va_D A w9 → va_S A s.heap H locs → lv_has ls 5 [(4, .int (nI i)), (3, .ref ra), (0, .ref o), (1, .ref la), (2, .int (nI b))] → W p l e (headSpec (cw_C_makePower :: TW) { frames := 11, cells := 24, slots := 1472, locals := 286 }).room s m ([.ref o, .ref la, .int (nI b)] : List Value).toArray below meth c H locs (6 * (i - 1)) (368 * (i - 1)) (MQ below (qR G A (fun r w9 => isS G w9 r (powS (b - 1) (V, K) f f).2 ∧ CCs G w9 o z u lv le lk (powS (b - 1) (V, K) f f).1.1 E (powS (b - 1) (V, K) f f).1.2 inp w d wV wC ∧ kp ws w9)) ([.ref o, .ref la, .int (nI b)] : List Value).toArray s 24 1472 A) (F0 m 5 ls []) := by
    intro n
    induction n with
    | zero =>
      intro i hi hi1 V1 K1 cur ra w9 H locs ls he hlV hlK hc hR1 kk hP hD hS hl
      refine lv_iload hx hb d_C_makePower_5 (lv_at hl 0 rfl) ?_
      refine lv_iload_n hx hb d_C_makePower_7 rfl (lv_at hl 4 rfl) ?_
      refine x_ge hx hb i b rfl rfl (by omega) (by omega) (tgt := 24) d_C_makePower_8 (by decide) (fun c1 => ?_) (fun c1 => ?_)
      · refine lv_aload_n hx hb d_C_makePower_24 rfl (lv_at hl 1 rfl) ?_
        have e9 : powS (b - 1) (V, K) f f = ((V1, K1), cur) := he.symm
        exact x_aret hx hb hr (Or.inl ⟨_, rfl⟩) hlocks hS hP hD (by omega) (by omega) d_C_makePower_25 (by rw [e9]; exact ⟨hc, hR1, kk⟩)
      · exact False.elim (by omega)
    | succ n ih =>
      intro i hi hi1 V1 K1 cur ra w9 H locs ls he hlV hlK hc hR1 kk hP hD hS hl
      refine lv_iload hx hb d_C_makePower_5 (lv_at hl 0 rfl) ?_
      refine lv_iload_n hx hb d_C_makePower_7 rfl (lv_at hl 4 rfl) ?_
      refine x_ge hx hb i b rfl rfl (by omega) (by omega) (tgt := 24) d_C_makePower_8 (by decide) (fun c2 => ?_) (fun c2 => ?_)
      · exact False.elim (by omega)
      · have cr := cp_right cur f
        have m1 : i * cp f f ≤ (b - 1) * cp f f := Nat.mul_le_mul (by omega) (Nat.le_refl _)
        have m2 : i * cp f f = (i - 1) * cp f f + cp f f := by rw [show i = (i - 1) + 1 by omega, Nat.add_mul, Nat.one_mul, Nat.add_sub_cancel]
        obtain ⟨wa1, da1, ho1⟩ := CCs.o hR1
        refine lv_aload_n hx hb d_C_makePower_11 rfl (lv_at hl 2 rfl) ?_
        refine lv_aload_n hx hb d_C_makePower_12 rfl (lv_at hl 1 rfl) ?_
        refine lv_aload_n hx hb d_C_makePower_13 rfl (lv_at hl 3 rfl) ?_
        refine x_callr (va_runV (As := [.ref ra, .ref la]) (rest := []) ⟨hx, hb, hml, hown, ht⟩ (c_mprod l G A w9 o z u lv le lk V1 E K1 inp w d wV wC hR1 ra la cur f hc (hf.kp kk) (by omega) (by omega)) (cwV 2 ht (TW_V k_ml_C_202 k_im_C_makeProduct k_se_C_makeProduct k_in_C k_code_C_makeProduct) rfl rfl rfl hv_C_makeProduct ⟨Nat.le_of_ble_eq_true rfl, Nat.le_of_ble_eq_true rfl⟩) ⟨x_blind, va_recv hK hP rfl ho1, x_pre hE hA hS hP hD⟩ rfl rfl hl.1 rfl (lv_room (Nat.le_of_ble_eq_true rfl)) d_C_makePower_14 ⟨by show 6 * (i - 1) + 6 ≤ 24; omega, by show 368 * (i - 1) + 368 ≤ 1472; omega⟩) hS (fun r5 w4 H locs q3 hP hD hS => ?_)
        refine W.widen (k := 6 * (i + 1 - 1)) (n := 368 * (i + 1 - 1)) (by omega) (by omega) ?_
        obtain ⟨i2, hR2, kk2⟩ := q3
        obtain ⟨z1, z2⟩ := prodS_len (V1, K1) cur f
        refine lv_astore_n (lv' := [(3, .ref r5), (4, .int (nI i)), (0, .ref o), (1, .ref la), (2, .int (nI b))]) hx hb d_C_makePower_17 rfl hl (by decide) rfl (fun ls hl => ?_)
        refine lv_iinc (v := nI (i + 1)) (lv' := [(4, .int (nI (i + 1))), (3, .ref r5), (0, .ref o), (1, .ref la), (2, .int (nI b))]) hx hb d_C_makePower_18 hl (k := 1) rfl (n_inc _) (by decide) rfl (fun ls hl => ?_)
        refine lv_goto (tgt := 5) hx hb d_C_makePower_21 (by decide) ?_
        exact ih (i + 1) (by omega) (by omega) _ _ _ r5 w4 H locs ls (by rw [← he]; rfl) (by rw [z1, Nat.add_sub_cancel]; show V1.length + _ ≤ _; omega) (by rw [z2, Nat.add_sub_cancel]; show K1.length + _ ≤ _; omega) i2 hR2 (kk.tr kk2) hP hD hS (lv_sub hl [0, 1, 2, 3, 4] rfl)
  exact loop (b - 1) 1 (by omega) (by decide) V K f la ws s.heap [] ls rfl (by omega) (by omega) hf hR kp.rf hP hD hS hl
