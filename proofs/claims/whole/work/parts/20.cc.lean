set_option maxHeartbeats 4000000 in
set_option maxRecDepth 100000 in
theorem c_msum (l : Launch) (G : xG) (A : Nat → Prop) (ws : va_W) (o z u lv le lk : Nat) (V : List VV) (E : List EE) (K : List KK) (inp : Nat) (w d : Nat → Nat) (wV wC : Nat) (hR : CCs G ws o z u lv le lk V E K inp w d wV wC) (bE : E.length ≤ 60) (kd : Nat) (x1 x2 x3 : Int32) (hw : wfd kd E.length x1 x2 x3) (bV : V.length + nd kd E x1 x2 x3 ≤ 60) (bK : K.length + nd kd E x1 x2 x3 ≤ 80) : Met l y_C_makeSum (cw_C_makeSum :: TW) { frames := 12, cells := 24, slots := 1472, locals := 312 } (va_Pc [.ref o, .int (nI kd), .int x1, .int x2, .int x3] (x_P G A ws)) (qR G A (fun r w9 => isS G w9 r (mkSum kd E (V, K) x1 x2 x3).2 ∧ CCs G w9 o z u lv le lk (mkSum kd E (V, K) x1 x2 x3).1.1 E (mkSum kd E (V, K) x1 x2 x3).1.2 inp w d wV wC ∧ kp ws w9)) 24 1472 A := by
  refine Met.ofW (cc := b_C_makeSum) (maxL := 5) (ret := (some (.object "ConstraintCompiler$Sum"))) (by decide) rfl ?_
  intro p e s m args below meth c s₁ B hml hv
  obtain ⟨rfl, hE, hA, hP, hD⟩ := hv
  have hx := B.exec
  have hb := B.bytes
  have hr := B.returns
  have ht : ∀ w ∈ TW, w.before _ s = true := fun w h => atoms_spec (ws := cw_C_makeSum :: TW) B.pre w (List.mem_cons_of_mem _ h)
  have hown : s.vm.findClass R_C = some m.cls := findClass_of_methodNamed B.named
  have hlocks := B.notSynchronized
  have hK := hE.1
  have hS : va_S A s.heap s.heap [] := va_S.rf
  have hl := lv_entry ([.ref o, .int (nI kd), .int x1, .int x2, .int x3]) (n := 5) (Nat.le_of_ble_eq_true rfl)
  rw [lg_entry_eq]
  generalize (lg_sl ([.ref o, .int (nI kd), .int x1, .int x2, .int x3]) ++ List.replicate (5 - (lg_sl ([.ref o, .int (nI kd), .int x1, .int x2, .int x3])).length) Slot.unset).toArray = ls at hl ⊢
  have hl : lv_has ls 5 [(0, .ref o), (1, .int (nI kd)), (2, .int x1), (3, .int x2), (4, .int x3)] := hl
  obtain ⟨wa0, da0, ho0⟩ := CCs.o hR
  obtain ⟨w1, w2, w3, w4, w5⟩ := hw
  have hk9 : kd = 0 ∨ kd = 1 ∨ kd = 2 ∨ kd = 3 ∨ kd = 4 ∨ kd = 5 ∨ kd = 6 ∨ kd = 7 ∨ kd = 8 ∨ kd = 9 := by omega
  rcases hk9 with rfl | rfl | rfl | rfl | rfl | rfl | rfl | rfl | rfl | rfl
  · refine lv_iload_n hx hb d_C_makeSum_0 rfl (lv_at hl 1 rfl) ?_
    refine lv_tableOut (tgt := 159) hx hb d_C_makeSum_1 (by decide) (by decide) ?_
    have iu := hR.z.2
    obtain ⟨kU, jU, cU, fU, pU, qU, nU, oU, eU, bU⟩ := id iu
    refine lv_aload_n hx hb d_C_makeSum_159 rfl (lv_at hl 0 rfl) ?_
    refine va_get (D := xD G) (ci := 0) (C := R_C) (T := F_C) (N := 10) hx hb ht in_C hown hK hP 0 ho0 rfl 1 (by decide) (ht _ k_fl_C_20) (fun _ h9 => h9) rfl d_C_makeSum_160 ?_
    refine lv_iload_n hx hb d_C_makeSum_163 rfl (lv_at hl 2 rfl) ?_
    refine x_calli (va_runS (As := [.int x1]) (rest := [.ref u]) ⟨hx, hb, hml, hown, ht⟩ (c_remainder l G A ws x1) (va_cwS 1 ht (TW_S k_ml_C_122 k_st_C_remainder k_in_C k_code_C_remainder) rfl rfl rfl hv_C_remainder.2 ⟨Nat.le_of_ble_eq_true rfl, Nat.le_of_ble_eq_true rfl⟩) ⟨x_blind, x_pre hE hA hS hP hD⟩ rfl rfl hl.1 rfl (lv_room (Nat.le_of_ble_eq_true rfl)) d_C_makeSum_164 ⟨Nat.le_of_ble_eq_true rfl, Nat.le_of_ble_eq_true rfl⟩) hS (fun r3 w2 H locs q1 hP hD hS => ?_)
    obtain ⟨rfl, rfl⟩ := q1
    refine x_callr (va_runV (As := [.int (nI (rm x1))]) (rest := []) ⟨hx, hb, hml, hown, ht⟩ (c_S_scaled l G A ws u (rm x1) (unit 0) iu (rm_lt x1)) (cwV 1 ht (TW_V k_ml_C_216 k_im_S_scaledBy k_se_S_scaledBy k_in_S k_code_S_scaledBy) rfl rfl rfl hv_S_scaledBy ⟨Nat.le_of_ble_eq_true rfl, Nat.le_of_ble_eq_true rfl⟩) ⟨x_blind, va_recv hK hP rfl pU, x_pre hE hA hS hP hD⟩ rfl rfl hl.1 rfl (lv_room (Nat.le_of_ble_eq_true rfl)) d_C_makeSum_167 ⟨Nat.le_of_ble_eq_true rfl, Nat.le_of_ble_eq_true rfl⟩) hS (fun r6 w5 H locs q4 hP hD hS => ?_)
    refine W.widen (k := 2) (n := 61) (Nat.le_of_ble_eq_true rfl) (Nat.le_of_ble_eq_true rfl) ?_
    obtain ⟨hR1, kk1, iS⟩ := mkS_CC hR q4 (fun j _ => cmb_lt j)
    have e9 : mkSum 0 E (V, K) x1 x2 x3 = ((V, K), cmb (rm x1) (unit 0) 0 (unit 0)) := rfl
    exact x_aret hx hb hr (Or.inl ⟨_, rfl⟩) hlocks hS hP hD (Nat.le_of_ble_eq_true rfl) (Nat.le_of_ble_eq_true rfl) d_C_makeSum_170 (by rw [e9]; exact ⟨iS, hR1, kk1⟩)
  · refine lv_iload_n hx hb d_C_makeSum_0 rfl (lv_at hl 1 rfl) ?_
    refine lv_tableOut (tgt := 159) hx hb d_C_makeSum_1 (by decide) (by decide) ?_
    have iu := hR.z.2
    obtain ⟨kU, jU, cU, fU, pU, qU, nU, oU, eU, bU⟩ := id iu
    refine lv_aload_n hx hb d_C_makeSum_159 rfl (lv_at hl 0 rfl) ?_
    refine va_get (D := xD G) (ci := 0) (C := R_C) (T := F_C) (N := 10) hx hb ht in_C hown hK hP 0 ho0 rfl 1 (by decide) (ht _ k_fl_C_20) (fun _ h9 => h9) rfl d_C_makeSum_160 ?_
    refine lv_iload_n hx hb d_C_makeSum_163 rfl (lv_at hl 2 rfl) ?_
    refine x_calli (va_runS (As := [.int x1]) (rest := [.ref u]) ⟨hx, hb, hml, hown, ht⟩ (c_remainder l G A ws x1) (va_cwS 1 ht (TW_S k_ml_C_122 k_st_C_remainder k_in_C k_code_C_remainder) rfl rfl rfl hv_C_remainder.2 ⟨Nat.le_of_ble_eq_true rfl, Nat.le_of_ble_eq_true rfl⟩) ⟨x_blind, x_pre hE hA hS hP hD⟩ rfl rfl hl.1 rfl (lv_room (Nat.le_of_ble_eq_true rfl)) d_C_makeSum_164 ⟨Nat.le_of_ble_eq_true rfl, Nat.le_of_ble_eq_true rfl⟩) hS (fun r9 w8 H locs q7 hP hD hS => ?_)
    obtain ⟨rfl, rfl⟩ := q7
    refine x_callr (va_runV (As := [.int (nI (rm x1))]) (rest := []) ⟨hx, hb, hml, hown, ht⟩ (c_S_scaled l G A ws u (rm x1) (unit 0) iu (rm_lt x1)) (cwV 1 ht (TW_V k_ml_C_216 k_im_S_scaledBy k_se_S_scaledBy k_in_S k_code_S_scaledBy) rfl rfl rfl hv_S_scaledBy ⟨Nat.le_of_ble_eq_true rfl, Nat.le_of_ble_eq_true rfl⟩) ⟨x_blind, va_recv hK hP rfl pU, x_pre hE hA hS hP hD⟩ rfl rfl hl.1 rfl (lv_room (Nat.le_of_ble_eq_true rfl)) d_C_makeSum_167 ⟨Nat.le_of_ble_eq_true rfl, Nat.le_of_ble_eq_true rfl⟩) hS (fun r12 w11 H locs q10 hP hD hS => ?_)
    refine W.widen (k := 2) (n := 61) (Nat.le_of_ble_eq_true rfl) (Nat.le_of_ble_eq_true rfl) ?_
    obtain ⟨hR1, kk1, iS⟩ := mkS_CC hR q10 (fun j _ => cmb_lt j)
    have e9 : mkSum 1 E (V, K) x1 x2 x3 = ((V, K), cmb (rm x1) (unit 0) 0 (unit 0)) := rfl
    exact x_aret hx hb hr (Or.inl ⟨_, rfl⟩) hlocks hS hP hD (Nat.le_of_ble_eq_true rfl) (Nat.le_of_ble_eq_true rfl) d_C_makeSum_170 (by rw [e9]; exact ⟨iS, hR1, kk1⟩)
  · refine lv_iload_n hx hb d_C_makeSum_0 rfl (lv_at hl 1 rfl) ?_
    refine lv_tableIn (off := 47) (tgt := 48) hx hb d_C_makeSum_1 (by decide) (by decide) (by decide) (by decide) ?_
    obtain ⟨a, ga, rfl⟩ := w2 (by decide)
    obtain ⟨b, gb, rfl⟩ := w3 (by decide) (by decide)
    refine lv_aload_n hx hb d_C_makeSum_48 rfl (lv_at hl 0 rfl) ?_
    refine lv_iload_n hx hb d_C_makeSum_49 rfl (lv_at hl 2 rfl) ?_
    refine x_callr (va_runV (As := [.int (nI a)]) (rest := []) ⟨hx, hb, hml, hown, ht⟩ (c_sumOf l G A ws o z u lv le lk V E K inp w d wV wC hR bE a ga) (cwV 1 ht (TW_V k_ml_C_94 k_im_C_sumOf k_se_C_sumOf k_in_C k_code_C_sumOf) rfl rfl rfl hv_C_sumOf ⟨Nat.le_of_ble_eq_true rfl, Nat.le_of_ble_eq_true rfl⟩) ⟨x_blind, va_recv hK hP rfl ho0, x_pre hE hA hS hP hD⟩ rfl rfl hl.1 rfl (lv_room (Nat.le_of_ble_eq_true rfl)) d_C_makeSum_50 ⟨Nat.le_of_ble_eq_true rfl, Nat.le_of_ble_eq_true rfl⟩) hS (fun r15 w14 H locs q13 hP hD hS => ?_)
    obtain ⟨rfl, ir15⟩ := q13
    obtain ⟨kA, jA, cA, fA, pA, qA, nA, oA, eA, bA⟩ := id ir15
    refine lv_aload_n hx hb d_C_makeSum_53 rfl (lv_at hl 0 rfl) ?_
    refine lv_iload_n hx hb d_C_makeSum_54 rfl (lv_at hl 3 rfl) ?_
    refine x_callr (va_runV (As := [.int (nI b)]) (rest := [.ref r15]) ⟨hx, hb, hml, hown, ht⟩ (c_sumOf l G A ws o z u lv le lk V E K inp w d wV wC hR bE b gb) (cwV 1 ht (TW_V k_ml_C_94 k_im_C_sumOf k_se_C_sumOf k_in_C k_code_C_sumOf) rfl rfl rfl hv_C_sumOf ⟨Nat.le_of_ble_eq_true rfl, Nat.le_of_ble_eq_true rfl⟩) ⟨x_blind, va_recv hK hP rfl ho0, x_pre hE hA hS hP hD⟩ rfl rfl hl.1 rfl (lv_room (Nat.le_of_ble_eq_true rfl)) d_C_makeSum_55 ⟨Nat.le_of_ble_eq_true rfl, Nat.le_of_ble_eq_true rfl⟩) hS (fun r18 w17 H locs q16 hP hD hS => ?_)
    obtain ⟨rfl, ir18⟩ := q16
    refine x_callr (va_runV (As := [.ref r18]) (rest := []) ⟨hx, hb, hml, hown, ht⟩ (c_S_plus l G A ws r15 r18 _ _ ir15 ir18) (cwV 1 ht (TW_V k_ml_C_199 k_im_S_plus k_se_S_plus k_in_S k_code_S_plus) rfl rfl rfl hv_S_plus ⟨Nat.le_of_ble_eq_true rfl, Nat.le_of_ble_eq_true rfl⟩) ⟨x_blind, va_recv hK hP rfl pA, x_pre hE hA hS hP hD⟩ rfl rfl hl.1 rfl (lv_room (Nat.le_of_ble_eq_true rfl)) d_C_makeSum_58 ⟨Nat.le_of_ble_eq_true rfl, Nat.le_of_ble_eq_true rfl⟩) hS (fun r21 w20 H locs q19 hP hD hS => ?_)
    refine W.widen (k := 2) (n := 61) (Nat.le_of_ble_eq_true rfl) (Nat.le_of_ble_eq_true rfl) ?_
    obtain ⟨hR1, kk1, iS⟩ := mkS_CC hR q19 (fun j _ => cmb_lt j)
    have e9 : mkSum 2 E (V, K) (nI a) (nI b) x3 = ((V, K), cmb 1 (sE E a) 1 (sE E b)) := by simp [mkSum, ix_nI (show a < 2 ^ 31 by omega), ix_nI (show b < 2 ^ 31 by omega)]
    exact x_aret hx hb hr (Or.inl ⟨_, rfl⟩) hlocks hS hP hD (Nat.le_of_ble_eq_true rfl) (Nat.le_of_ble_eq_true rfl) d_C_makeSum_61 (by rw [e9]; exact ⟨iS, hR1, kk1⟩)
  · refine lv_iload_n hx hb d_C_makeSum_0 rfl (lv_at hl 1 rfl) ?_
    refine lv_tableIn (off := 61) (tgt := 62) hx hb d_C_makeSum_1 (by decide) (by decide) (by decide) (by decide) ?_
    obtain ⟨a, ga, rfl⟩ := w2 (by decide)
    obtain ⟨b, gb, rfl⟩ := w3 (by decide) (by decide)
    refine lv_aload_n hx hb d_C_makeSum_62 rfl (lv_at hl 0 rfl) ?_
    refine lv_iload_n hx hb d_C_makeSum_63 rfl (lv_at hl 2 rfl) ?_
    refine lv_iload_n hx hb d_C_makeSum_64 rfl (lv_at hl 3 rfl) ?_
    refine x_callr (va_runV (As := [.int (nI a), .int (nI b)]) (rest := []) ⟨hx, hb, hml, hown, ht⟩ (c_diff l G A ws o z u lv le lk V E K inp w d wV wC hR bE a b ga gb) (cwV 2 ht (TW_V k_ml_C_86 k_im_C_difference k_se_C_difference k_in_C k_code_C_difference) rfl rfl rfl hv_C_difference ⟨Nat.le_of_ble_eq_true rfl, Nat.le_of_ble_eq_true rfl⟩) ⟨x_blind, va_recv hK hP rfl ho0, x_pre hE hA hS hP hD⟩ rfl rfl hl.1 rfl (lv_room (Nat.le_of_ble_eq_true rfl)) d_C_makeSum_65 ⟨Nat.le_of_ble_eq_true rfl, Nat.le_of_ble_eq_true rfl⟩) hS (fun r24 w23 H locs q22 hP hD hS => ?_)
    refine W.widen (k := 2) (n := 61) (Nat.le_of_ble_eq_true rfl) (Nat.le_of_ble_eq_true rfl) ?_
    obtain ⟨hR1, kk1, iS⟩ := mkS_CC hR q22 (fun j _ => cmb_lt j)
    have e9 : mkSum 3 E (V, K) (nI a) (nI b) x3 = ((V, K), cmb 1 (sE E a) 96 (sE E b)) := by simp [mkSum, ix_nI (show a < 2 ^ 31 by omega), ix_nI (show b < 2 ^ 31 by omega)]
    exact x_aret hx hb hr (Or.inl ⟨_, rfl⟩) hlocks hS hP hD (Nat.le_of_ble_eq_true rfl) (Nat.le_of_ble_eq_true rfl) d_C_makeSum_68 (by rw [e9]; exact ⟨iS, hR1, kk1⟩)
  · refine lv_iload_n hx hb d_C_makeSum_0 rfl (lv_at hl 1 rfl) ?_
    refine lv_tableIn (off := 68) (tgt := 69) hx hb d_C_makeSum_1 (by decide) (by decide) (by decide) (by decide) ?_
    obtain ⟨a, ga, rfl⟩ := w2 (by decide)
    obtain ⟨b, gb, rfl⟩ := w3 (by decide) (by decide)
    have n9 : nd 4 E (nI a) (nI b) x3 = cp (sE E a) (sE E b) := by simp [nd, ix_nI (show a < 2 ^ 31 by omega), ix_nI (show b < 2 ^ 31 by omega)]
    rw [n9] at bV bK
    refine lv_aload_n hx hb d_C_makeSum_69 rfl (lv_at hl 0 rfl) ?_
    refine lv_aload_n hx hb d_C_makeSum_70 rfl (lv_at hl 0 rfl) ?_
    refine lv_iload_n hx hb d_C_makeSum_71 rfl (lv_at hl 2 rfl) ?_
    refine x_callr (va_runV (As := [.int (nI a)]) (rest := [.ref o]) ⟨hx, hb, hml, hown, ht⟩ (c_sumOf l G A ws o z u lv le lk V E K inp w d wV wC hR bE a ga) (cwV 1 ht (TW_V k_ml_C_94 k_im_C_sumOf k_se_C_sumOf k_in_C k_code_C_sumOf) rfl rfl rfl hv_C_sumOf ⟨Nat.le_of_ble_eq_true rfl, Nat.le_of_ble_eq_true rfl⟩) ⟨x_blind, va_recv hK hP rfl ho0, x_pre hE hA hS hP hD⟩ rfl rfl hl.1 rfl (lv_room (Nat.le_of_ble_eq_true rfl)) d_C_makeSum_72 ⟨Nat.le_of_ble_eq_true rfl, Nat.le_of_ble_eq_true rfl⟩) hS (fun r27 w26 H locs q25 hP hD hS => ?_)
    obtain ⟨rfl, ir27⟩ := q25
    refine lv_aload_n hx hb d_C_makeSum_75 rfl (lv_at hl 0 rfl) ?_
    refine lv_iload_n hx hb d_C_makeSum_76 rfl (lv_at hl 3 rfl) ?_
    refine x_callr (va_runV (As := [.int (nI b)]) (rest := [.ref r27, .ref o]) ⟨hx, hb, hml, hown, ht⟩ (c_sumOf l G A ws o z u lv le lk V E K inp w d wV wC hR bE b gb) (cwV 1 ht (TW_V k_ml_C_94 k_im_C_sumOf k_se_C_sumOf k_in_C k_code_C_sumOf) rfl rfl rfl hv_C_sumOf ⟨Nat.le_of_ble_eq_true rfl, Nat.le_of_ble_eq_true rfl⟩) ⟨x_blind, va_recv hK hP rfl ho0, x_pre hE hA hS hP hD⟩ rfl rfl hl.1 rfl (lv_room (Nat.le_of_ble_eq_true rfl)) d_C_makeSum_77 ⟨Nat.le_of_ble_eq_true rfl, Nat.le_of_ble_eq_true rfl⟩) hS (fun r30 w29 H locs q28 hP hD hS => ?_)
    obtain ⟨rfl, ir30⟩ := q28
    refine x_callr (va_runV (As := [.ref r27, .ref r30]) (rest := []) ⟨hx, hb, hml, hown, ht⟩ (c_mprod l G A ws o z u lv le lk V E K inp w d wV wC hR r27 r30 _ _ ir27 ir30 bV bK) (cwV 2 ht (TW_V k_ml_C_202 k_im_C_makeProduct k_se_C_makeProduct k_in_C k_code_C_makeProduct) rfl rfl rfl hv_C_makeProduct ⟨Nat.le_of_ble_eq_true rfl, Nat.le_of_ble_eq_true rfl⟩) ⟨x_blind, va_recv hK hP rfl ho0, x_pre hE hA hS hP hD⟩ rfl rfl hl.1 rfl (lv_room (Nat.le_of_ble_eq_true rfl)) d_C_makeSum_80 ⟨Nat.le_of_ble_eq_true rfl, Nat.le_of_ble_eq_true rfl⟩) hS (fun r33 w32 H locs q31 hP hD hS => ?_)
    refine W.widen (k := 6) (n := 368) (Nat.le_of_ble_eq_true rfl) (Nat.le_of_ble_eq_true rfl) ?_
    have e9 : mkSum 4 E (V, K) (nI a) (nI b) x3 = prodS (V, K) (sE E a) (sE E b) := by simp [mkSum, ix_nI (show a < 2 ^ 31 by omega), ix_nI (show b < 2 ^ 31 by omega)]
    exact x_aret hx hb hr (Or.inl ⟨_, rfl⟩) hlocks hS hP hD (Nat.le_of_ble_eq_true rfl) (Nat.le_of_ble_eq_true rfl) d_C_makeSum_83 (by rw [e9]; exact q31)
  · refine lv_iload_n hx hb d_C_makeSum_0 rfl (lv_at hl 1 rfl) ?_
    refine lv_tableIn (off := 83) (tgt := 84) hx hb d_C_makeSum_1 (by decide) (by decide) (by decide) (by decide) ?_
    obtain ⟨a, ga, rfl⟩ := w2 (by decide)
    obtain ⟨b, gb, rfl⟩ := w3 (by decide) (by decide)
    refine lv_aload_n hx hb d_C_makeSum_84 rfl (lv_at hl 0 rfl) ?_
    refine lv_aload_n hx hb d_C_makeSum_85 rfl (lv_at hl 0 rfl) ?_
    refine lv_iload_n hx hb d_C_makeSum_86 rfl (lv_at hl 2 rfl) ?_
    refine x_callr (va_runV (As := [.int (nI a)]) (rest := [.ref o]) ⟨hx, hb, hml, hown, ht⟩ (c_sumOf l G A ws o z u lv le lk V E K inp w d wV wC hR bE a ga) (cwV 1 ht (TW_V k_ml_C_94 k_im_C_sumOf k_se_C_sumOf k_in_C k_code_C_sumOf) rfl rfl rfl hv_C_sumOf ⟨Nat.le_of_ble_eq_true rfl, Nat.le_of_ble_eq_true rfl⟩) ⟨x_blind, va_recv hK hP rfl ho0, x_pre hE hA hS hP hD⟩ rfl rfl hl.1 rfl (lv_room (Nat.le_of_ble_eq_true rfl)) d_C_makeSum_87 ⟨Nat.le_of_ble_eq_true rfl, Nat.le_of_ble_eq_true rfl⟩) hS (fun r36 w35 H locs q34 hP hD hS => ?_)
    obtain ⟨rfl, ir36⟩ := q34
    refine lv_aload_n hx hb d_C_makeSum_90 rfl (lv_at hl 0 rfl) ?_
    refine lv_iload_n hx hb d_C_makeSum_91 rfl (lv_at hl 3 rfl) ?_
    refine x_callr (va_runV (As := [.int (nI b)]) (rest := [.ref r36, .ref o]) ⟨hx, hb, hml, hown, ht⟩ (c_sumOf l G A ws o z u lv le lk V E K inp w d wV wC hR bE b gb) (cwV 1 ht (TW_V k_ml_C_94 k_im_C_sumOf k_se_C_sumOf k_in_C k_code_C_sumOf) rfl rfl rfl hv_C_sumOf ⟨Nat.le_of_ble_eq_true rfl, Nat.le_of_ble_eq_true rfl⟩) ⟨x_blind, va_recv hK hP rfl ho0, x_pre hE hA hS hP hD⟩ rfl rfl hl.1 rfl (lv_room (Nat.le_of_ble_eq_true rfl)) d_C_makeSum_92 ⟨Nat.le_of_ble_eq_true rfl, Nat.le_of_ble_eq_true rfl⟩) hS (fun r39 w38 H locs q37 hP hD hS => ?_)
    obtain ⟨rfl, ir39⟩ := q37
    refine x_callr (va_runV (As := [.ref r36, .ref r39]) (rest := []) ⟨hx, hb, hml, hown, ht⟩ (c_mshare l G A ws o z u lv le lk V E K inp w d wV wC hR r36 r39 _ _ ir36 ir39 bV bK) (cwV 2 ht (TW_V k_ml_C_206 k_im_C_makeShare k_se_C_makeShare k_in_C k_code_C_makeShare) rfl rfl rfl hv_C_makeShare ⟨Nat.le_of_ble_eq_true rfl, Nat.le_of_ble_eq_true rfl⟩) ⟨x_blind, va_recv hK hP rfl ho0, x_pre hE hA hS hP hD⟩ rfl rfl hl.1 rfl (lv_room (Nat.le_of_ble_eq_true rfl)) d_C_makeSum_95 ⟨Nat.le_of_ble_eq_true rfl, Nat.le_of_ble_eq_true rfl⟩) hS (fun r42 w41 H locs q40 hP hD hS => ?_)
    refine W.widen (k := 12) (n := 736) (Nat.le_of_ble_eq_true rfl) (Nat.le_of_ble_eq_true rfl) ?_
    have e9 : mkSum 5 E (V, K) (nI a) (nI b) x3 = shareS (V, K) (sE E a) (sE E b) := by simp [mkSum, ix_nI (show a < 2 ^ 31 by omega), ix_nI (show b < 2 ^ 31 by omega)]
    exact x_aret hx hb hr (Or.inl ⟨_, rfl⟩) hlocks hS hP hD (Nat.le_of_ble_eq_true rfl) (Nat.le_of_ble_eq_true rfl) d_C_makeSum_98 (by rw [e9]; exact q40)
  · refine lv_iload_n hx hb d_C_makeSum_0 rfl (lv_at hl 1 rfl) ?_
    refine lv_tableIn (off := 98) (tgt := 99) hx hb d_C_makeSum_1 (by decide) (by decide) (by decide) (by decide) ?_
    obtain ⟨a, ga, rfl⟩ := w2 (by decide)
    obtain ⟨b, gb, rfl⟩ := w3 (by decide) (by decide)
    refine lv_aload_n hx hb d_C_makeSum_99 rfl (lv_at hl 0 rfl) ?_
    refine lv_aload_n hx hb d_C_makeSum_100 rfl (lv_at hl 0 rfl) ?_
    refine lv_iload_n hx hb d_C_makeSum_101 rfl (lv_at hl 2 rfl) ?_
    refine lv_iload_n hx hb d_C_makeSum_102 rfl (lv_at hl 3 rfl) ?_
    refine x_callr (va_runV (As := [.int (nI a), .int (nI b)]) (rest := [.ref o]) ⟨hx, hb, hml, hown, ht⟩ (c_diff l G A ws o z u lv le lk V E K inp w d wV wC hR bE a b ga gb) (cwV 2 ht (TW_V k_ml_C_86 k_im_C_difference k_se_C_difference k_in_C k_code_C_difference) rfl rfl rfl hv_C_difference ⟨Nat.le_of_ble_eq_true rfl, Nat.le_of_ble_eq_true rfl⟩) ⟨x_blind, va_recv hK hP rfl ho0, x_pre hE hA hS hP hD⟩ rfl rfl hl.1 rfl (lv_room (Nat.le_of_ble_eq_true rfl)) d_C_makeSum_103 ⟨Nat.le_of_ble_eq_true rfl, Nat.le_of_ble_eq_true rfl⟩) hS (fun r45 w44 H locs q43 hP hD hS => ?_)
    refine W.widen (k := 2) (n := 61) (Nat.le_of_ble_eq_true rfl) (Nat.le_of_ble_eq_true rfl) ?_
    obtain ⟨hR1, kk1, iS⟩ := mkS_CC hR q43 (fun j _ => cmb_lt j)
    obtain ⟨wa1, da1, ho1⟩ := CCs.o hR1
    refine x_callr (va_runV (As := [.ref r45]) (rest := []) ⟨hx, hb, hml, hown, ht⟩ (c_msame l G A w44 o z u lv le lk V E K inp w d wV wC hR1 r45 _ iS bV bK) (cwV 1 ht (TW_V k_ml_C_209 k_im_C_makeSame k_se_C_makeSame k_in_C k_code_C_makeSame) rfl rfl rfl hv_C_makeSame ⟨Nat.le_of_ble_eq_true rfl, Nat.le_of_ble_eq_true rfl⟩) ⟨x_blind, va_recv hK hP rfl ho1, x_pre hE hA hS hP hD⟩ rfl rfl hl.1 rfl (lv_room (Nat.le_of_ble_eq_true rfl)) d_C_makeSum_106 ⟨Nat.le_of_ble_eq_true rfl, Nat.le_of_ble_eq_true rfl⟩) hS (fun r48 w47 H locs q46 hP hD hS => ?_)
    refine W.widen (k := 16) (n := 858) (Nat.le_of_ble_eq_true rfl) (Nat.le_of_ble_eq_true rfl) ?_
    obtain ⟨i2, hR2, kk2⟩ := q46
    have e9 : mkSum 6 E (V, K) (nI a) (nI b) x3 = sameS (V, K) (cmb 1 (sE E a) 96 (sE E b)) := by simp [mkSum, ix_nI (show a < 2 ^ 31 by omega), ix_nI (show b < 2 ^ 31 by omega)]
    exact x_aret hx hb hr (Or.inl ⟨_, rfl⟩) hlocks hS hP hD (Nat.le_of_ble_eq_true rfl) (Nat.le_of_ble_eq_true rfl) d_C_makeSum_109 (by rw [e9]; exact ⟨i2, hR2, kk1.tr kk2⟩)
  · refine lv_iload_n hx hb d_C_makeSum_0 rfl (lv_at hl 1 rfl) ?_
    refine lv_tableIn (off := 109) (tgt := 110) hx hb d_C_makeSum_1 (by decide) (by decide) (by decide) (by decide) ?_
    obtain ⟨a, ga, rfl⟩ := w2 (by decide)
    obtain ⟨b, gb, rfl⟩ := w3 (by decide) (by decide)
    obtain ⟨c9, gc9, rfl⟩ := w4 rfl
    have n9 : nd 7 E (nI a) (nI b) (nI c9) = cp (sE E c9) (cmb 1 (sE E a) 96 (sE E b)) := by simp [nd, ix_nI (show a < 2 ^ 31 by omega), ix_nI (show b < 2 ^ 31 by omega), ix_nI (show c9 < 2 ^ 31 by omega)]
    rw [n9] at bV bK
    refine lv_aload_n hx hb d_C_makeSum_110 rfl (lv_at hl 0 rfl) ?_
    refine lv_aload_n hx hb d_C_makeSum_111 rfl (lv_at hl 0 rfl) ?_
    refine lv_iload hx hb d_C_makeSum_112 (lv_at hl 4 rfl) ?_
    refine x_callr (va_runV (As := [.int (nI c9)]) (rest := [.ref o]) ⟨hx, hb, hml, hown, ht⟩ (c_sumOf l G A ws o z u lv le lk V E K inp w d wV wC hR bE c9 gc9) (cwV 1 ht (TW_V k_ml_C_94 k_im_C_sumOf k_se_C_sumOf k_in_C k_code_C_sumOf) rfl rfl rfl hv_C_sumOf ⟨Nat.le_of_ble_eq_true rfl, Nat.le_of_ble_eq_true rfl⟩) ⟨x_blind, va_recv hK hP rfl ho0, x_pre hE hA hS hP hD⟩ rfl rfl hl.1 rfl (lv_room (Nat.le_of_ble_eq_true rfl)) d_C_makeSum_114 ⟨Nat.le_of_ble_eq_true rfl, Nat.le_of_ble_eq_true rfl⟩) hS (fun r51 w50 H locs q49 hP hD hS => ?_)
    obtain ⟨rfl, ir51⟩ := q49
    refine lv_aload_n hx hb d_C_makeSum_117 rfl (lv_at hl 0 rfl) ?_
    refine lv_iload_n hx hb d_C_makeSum_118 rfl (lv_at hl 2 rfl) ?_
    refine lv_iload_n hx hb d_C_makeSum_119 rfl (lv_at hl 3 rfl) ?_
    refine x_callr (va_runV (As := [.int (nI a), .int (nI b)]) (rest := [.ref r51, .ref o]) ⟨hx, hb, hml, hown, ht⟩ (c_diff l G A ws o z u lv le lk V E K inp w d wV wC hR bE a b ga gb) (cwV 2 ht (TW_V k_ml_C_86 k_im_C_difference k_se_C_difference k_in_C k_code_C_difference) rfl rfl rfl hv_C_difference ⟨Nat.le_of_ble_eq_true rfl, Nat.le_of_ble_eq_true rfl⟩) ⟨x_blind, va_recv hK hP rfl ho0, x_pre hE hA hS hP hD⟩ rfl rfl hl.1 rfl (lv_room (Nat.le_of_ble_eq_true rfl)) d_C_makeSum_120 ⟨Nat.le_of_ble_eq_true rfl, Nat.le_of_ble_eq_true rfl⟩) hS (fun r54 w53 H locs q52 hP hD hS => ?_)
    refine W.widen (k := 2) (n := 61) (Nat.le_of_ble_eq_true rfl) (Nat.le_of_ble_eq_true rfl) ?_
    obtain ⟨hR1, kk1, iS⟩ := mkS_CC hR q52 (fun j _ => cmb_lt j)
    obtain ⟨wa1, da1, ho1⟩ := CCs.o hR1
    refine x_callr (va_runV (As := [.ref r51, .ref r54]) (rest := []) ⟨hx, hb, hml, hown, ht⟩ (c_mprod l G A w53 o z u lv le lk V E K inp w d wV wC hR1 r51 r54 _ _ (ir51.kp kk1) iS bV bK) (cwV 2 ht (TW_V k_ml_C_202 k_im_C_makeProduct k_se_C_makeProduct k_in_C k_code_C_makeProduct) rfl rfl rfl hv_C_makeProduct ⟨Nat.le_of_ble_eq_true rfl, Nat.le_of_ble_eq_true rfl⟩) ⟨x_blind, va_recv hK hP rfl ho1, x_pre hE hA hS hP hD⟩ rfl rfl hl.1 rfl (lv_room (Nat.le_of_ble_eq_true rfl)) d_C_makeSum_123 ⟨Nat.le_of_ble_eq_true rfl, Nat.le_of_ble_eq_true rfl⟩) hS (fun r57 w56 H locs q55 hP hD hS => ?_)
    refine W.widen (k := 8) (n := 429) (Nat.le_of_ble_eq_true rfl) (Nat.le_of_ble_eq_true rfl) ?_
    obtain ⟨i2, hR2, kk2⟩ := q55
    obtain ⟨wa2, da2, ho2⟩ := CCs.o hR2
    obtain ⟨kP, jP, cP, fP, pP, qP, nP, oP, eP, bP⟩ := id i2
    refine lv_aload_n hx hb d_C_makeSum_126 rfl (lv_at hl 0 rfl) ?_
    refine lv_iload_n hx hb d_C_makeSum_127 rfl (lv_at hl 3 rfl) ?_
    refine x_callr (va_runV (As := [.int (nI b)]) (rest := [.ref r57]) ⟨hx, hb, hml, hown, ht⟩ (c_sumOf l G A w56 o z u lv le lk _ E _ inp w d wV wC hR2 bE b gb) (cwV 1 ht (TW_V k_ml_C_94 k_im_C_sumOf k_se_C_sumOf k_in_C k_code_C_sumOf) rfl rfl rfl hv_C_sumOf ⟨Nat.le_of_ble_eq_true rfl, Nat.le_of_ble_eq_true rfl⟩) ⟨x_blind, va_recv hK hP rfl ho2, x_pre hE hA hS hP hD⟩ rfl rfl hl.1 rfl (lv_room (Nat.le_of_ble_eq_true rfl)) d_C_makeSum_128 ⟨Nat.le_of_ble_eq_true rfl, Nat.le_of_ble_eq_true rfl⟩) hS (fun r60 w59 H locs q58 hP hD hS => ?_)
    obtain ⟨rfl, i3⟩ := q58
    refine x_callr (va_runV (As := [.ref r60]) (rest := []) ⟨hx, hb, hml, hown, ht⟩ (c_S_plus l G A w56 r57 r60 _ _ i2 i3) (cwV 1 ht (TW_V k_ml_C_199 k_im_S_plus k_se_S_plus k_in_S k_code_S_plus) rfl rfl rfl hv_S_plus ⟨Nat.le_of_ble_eq_true rfl, Nat.le_of_ble_eq_true rfl⟩) ⟨x_blind, va_recv hK hP rfl pP, x_pre hE hA hS hP hD⟩ rfl rfl hl.1 rfl (lv_room (Nat.le_of_ble_eq_true rfl)) d_C_makeSum_131 ⟨Nat.le_of_ble_eq_true rfl, Nat.le_of_ble_eq_true rfl⟩) hS (fun r63 w62 H locs q61 hP hD hS => ?_)
    refine W.widen (k := 10) (n := 490) (Nat.le_of_ble_eq_true rfl) (Nat.le_of_ble_eq_true rfl) ?_
    obtain ⟨hR3, kk3, i4⟩ := mkS_CC hR2 q61 (fun j _ => cmb_lt j)
    have e9 : mkSum 7 E (V, K) (nI a) (nI b) (nI c9) = ((prodS (V, K) (sE E c9) (cmb 1 (sE E a) 96 (sE E b))).1, cmb 1 (prodS (V, K) (sE E c9) (cmb 1 (sE E a) 96 (sE E b))).2 1 (sE E b)) := by simp [mkSum, ix_nI (show a < 2 ^ 31 by omega), ix_nI (show b < 2 ^ 31 by omega), ix_nI (show c9 < 2 ^ 31 by omega)]
    exact x_aret hx hb hr (Or.inl ⟨_, rfl⟩) hlocks hS hP hD (Nat.le_of_ble_eq_true rfl) (Nat.le_of_ble_eq_true rfl) d_C_makeSum_134 (by rw [e9]; exact ⟨i4, hR3, (kk1.tr kk2).tr kk3⟩)
  · refine lv_iload_n hx hb d_C_makeSum_0 rfl (lv_at hl 1 rfl) ?_
    refine lv_tableIn (off := 134) (tgt := 135) hx hb d_C_makeSum_1 (by decide) (by decide) (by decide) (by decide) ?_
    obtain ⟨a, ga, rfl⟩ := w2 (by decide)
    have iu := hR.z.2
    obtain ⟨kU, jU, cU, fU, pU, qU, nU, oU, eU, bU⟩ := id iu
    refine lv_aload_n hx hb d_C_makeSum_135 rfl (lv_at hl 0 rfl) ?_
    refine va_get (D := xD G) (ci := 0) (C := R_C) (T := F_C) (N := 10) hx hb ht in_C hown hK hP 0 ho0 rfl 1 (by decide) (ht _ k_fl_C_20) (fun _ h9 => h9) rfl d_C_makeSum_136 ?_
    refine lv_aload_n hx hb d_C_makeSum_139 rfl (lv_at hl 0 rfl) ?_
    refine lv_iload_n hx hb d_C_makeSum_140 rfl (lv_at hl 2 rfl) ?_
    refine x_callr (va_runV (As := [.int (nI a)]) (rest := [.ref u]) ⟨hx, hb, hml, hown, ht⟩ (c_sumOf l G A ws o z u lv le lk V E K inp w d wV wC hR bE a ga) (cwV 1 ht (TW_V k_ml_C_94 k_im_C_sumOf k_se_C_sumOf k_in_C k_code_C_sumOf) rfl rfl rfl hv_C_sumOf ⟨Nat.le_of_ble_eq_true rfl, Nat.le_of_ble_eq_true rfl⟩) ⟨x_blind, va_recv hK hP rfl ho0, x_pre hE hA hS hP hD⟩ rfl rfl hl.1 rfl (lv_room (Nat.le_of_ble_eq_true rfl)) d_C_makeSum_141 ⟨Nat.le_of_ble_eq_true rfl, Nat.le_of_ble_eq_true rfl⟩) hS (fun r66 w65 H locs q64 hP hD hS => ?_)
    obtain ⟨rfl, ir66⟩ := q64
    refine x_callr (va_runV (As := [.ref r66]) (rest := []) ⟨hx, hb, hml, hown, ht⟩ (c_S_minus l G A ws u r66 _ _ iu ir66) (cwV 1 ht (TW_V k_ml_C_97 k_im_S_minus k_se_S_minus k_in_S k_code_S_minus) rfl rfl rfl hv_S_minus ⟨Nat.le_of_ble_eq_true rfl, Nat.le_of_ble_eq_true rfl⟩) ⟨x_blind, va_recv hK hP rfl pU, x_pre hE hA hS hP hD⟩ rfl rfl hl.1 rfl (lv_room (Nat.le_of_ble_eq_true rfl)) d_C_makeSum_144 ⟨Nat.le_of_ble_eq_true rfl, Nat.le_of_ble_eq_true rfl⟩) hS (fun r69 w68 H locs q67 hP hD hS => ?_)
    refine W.widen (k := 2) (n := 61) (Nat.le_of_ble_eq_true rfl) (Nat.le_of_ble_eq_true rfl) ?_
    obtain ⟨hR1, kk1, iS⟩ := mkS_CC hR q67 (fun j _ => cmb_lt j)
    have e9 : mkSum 8 E (V, K) (nI a) x2 x3 = ((V, K), cmb 1 (unit 0) 96 (sE E a)) := by simp [mkSum, ix_nI (show a < 2 ^ 31 by omega)]
    exact x_aret hx hb hr (Or.inl ⟨_, rfl⟩) hlocks hS hP hD (Nat.le_of_ble_eq_true rfl) (Nat.le_of_ble_eq_true rfl) d_C_makeSum_147 (by rw [e9]; exact ⟨iS, hR1, kk1⟩)
  · refine lv_iload_n hx hb d_C_makeSum_0 rfl (lv_at hl 1 rfl) ?_
    refine lv_tableIn (off := 147) (tgt := 148) hx hb d_C_makeSum_1 (by decide) (by decide) (by decide) (by decide) ?_
    obtain ⟨a, ga, rfl⟩ := w2 (by decide)
    obtain ⟨b, hb1, hb5, rfl⟩ := w5 rfl
    have n9 : nd 9 E (nI a) (nI b) x3 = (b - 1) * cp (sE E a) (sE E a) := by simp [nd, ix_nI (show a < 2 ^ 31 by omega), ix_nI (show b < 2 ^ 31 by omega)]
    rw [n9] at bV bK
    refine lv_aload_n hx hb d_C_makeSum_148 rfl (lv_at hl 0 rfl) ?_
    refine lv_aload_n hx hb d_C_makeSum_149 rfl (lv_at hl 0 rfl) ?_
    refine lv_iload_n hx hb d_C_makeSum_150 rfl (lv_at hl 2 rfl) ?_
    refine x_callr (va_runV (As := [.int (nI a)]) (rest := [.ref o]) ⟨hx, hb, hml, hown, ht⟩ (c_sumOf l G A ws o z u lv le lk V E K inp w d wV wC hR bE a ga) (cwV 1 ht (TW_V k_ml_C_94 k_im_C_sumOf k_se_C_sumOf k_in_C k_code_C_sumOf) rfl rfl rfl hv_C_sumOf ⟨Nat.le_of_ble_eq_true rfl, Nat.le_of_ble_eq_true rfl⟩) ⟨x_blind, va_recv hK hP rfl ho0, x_pre hE hA hS hP hD⟩ rfl rfl hl.1 rfl (lv_room (Nat.le_of_ble_eq_true rfl)) d_C_makeSum_151 ⟨Nat.le_of_ble_eq_true rfl, Nat.le_of_ble_eq_true rfl⟩) hS (fun r72 w71 H locs q70 hP hD hS => ?_)
    obtain ⟨rfl, ir72⟩ := q70
    refine lv_iload_n hx hb d_C_makeSum_154 rfl (lv_at hl 3 rfl) ?_
    refine x_callr (va_runV (As := [.ref r72, .int (nI b)]) (rest := []) ⟨hx, hb, hml, hown, ht⟩ (c_mpow l G A ws o z u lv le lk V E K inp w d wV wC hR r72 b _ ir72 hb1 hb5 bV bK) (cwV 2 ht (TW_V k_ml_C_212 k_im_C_makePower k_se_C_makePower k_in_C k_code_C_makePower) rfl rfl rfl hv_C_makePower ⟨Nat.le_of_ble_eq_true rfl, Nat.le_of_ble_eq_true rfl⟩) ⟨x_blind, va_recv hK hP rfl ho0, x_pre hE hA hS hP hD⟩ rfl rfl hl.1 rfl (lv_room (Nat.le_of_ble_eq_true rfl)) d_C_makeSum_155 ⟨Nat.le_of_ble_eq_true rfl, Nat.le_of_ble_eq_true rfl⟩) hS (fun r75 w74 H locs q73 hP hD hS => ?_)
    refine W.widen (k := 24) (n := 1472) (Nat.le_of_ble_eq_true rfl) (Nat.le_of_ble_eq_true rfl) ?_
    have e9 : mkSum 9 E (V, K) (nI a) (nI b) x3 = powS (b - 1) (V, K) (sE E a) (sE E a) := by simp [mkSum, ix_nI (show a < 2 ^ 31 by omega), ix_nI (show b < 2 ^ 31 by omega)]
    exact x_aret hx hb hr (Or.inl ⟨_, rfl⟩) hlocks hS hP hD (Nat.le_of_ble_eq_true rfl) (Nat.le_of_ble_eq_true rfl) d_C_makeSum_158 (by rw [e9]; exact q73)

def wfx (n : Nat) (x0 x1 x2 x3 : Int32) : Prop := ∃ kd, x0 = nI kd ∧ wfd kd n x1 x2 x3
theorem wfx_iff {n kd : Nat} {x1 x2 x3 : Int32} (h : kd < 2 ^ 31) : wfx n (nI kd) x1 x2 x3 ↔ wfd kd n x1 x2 x3 := by
  constructor
  · rintro ⟨k, e, hk⟩
    have h1 := hk.1
    rw [nI_eq h (by omega)] at e
    rw [e]; exact hk
  · exact fun hk => ⟨kd, rfl, hk⟩
theorem rng15 {x : Int32} (h1 : ¬ x < nI 1) (h2 : ¬ nI 5 < x) : ∃ b, 1 ≤ b ∧ b ≤ 5 ∧ x = nI b := by
  rw [Int32.lt_iff_toInt_lt, nI_toInt (by decide)] at h1 h2
  refine ⟨x.toInt.toNat, by omega, by omega, ?_⟩
  apply Int32.toInt_inj.mp
  rw [nI_toInt (by omega)]
  omega

set_option maxHeartbeats 4000000 in
set_option maxRecDepth 100000 in
theorem c_wf (l : Launch) (G : xG) (A : Nat → Prop) (ws : va_W) (o z u lv le lk : Nat) (V : List VV) (E : List EE) (K : List KK) (inp : Nat) (w d : Nat → Nat) (wV wC : Nat) (hR : CCs G ws o z u lv le lk V E K inp w d wV wC) (bE : E.length ≤ 60) (x0 x1 x2 x3 : Int32) : Met l y_C_isWellFormed (cw_C_isWellFormed :: TW) { frames := 3, cells := 0, slots := 0, locals := 78 } (va_Pc [.ref o, .int x0, .int x1, .int x2, .int x3] (x_P G A ws)) (qI G A (fun r w9 => ws = w9 ∧ ((r = nI 1 ∧ wfx E.length x0 x1 x2 x3) ∨ (r = nI 0 ∧ ¬ wfx E.length x0 x1 x2 x3)))) 0 0 A := by
  refine Met.ofW (cc := b_C_isWellFormed) (maxL := 5) (ret := (some .boolean)) (by decide) rfl ?_
  intro p e s m args below meth c s₁ B hml hv
  obtain ⟨rfl, hE, hA, hP, hD⟩ := hv
  have hx := B.exec
  have hb := B.bytes
  have hr := B.returns
  have ht : ∀ w ∈ TW, w.before _ s = true := fun w h => atoms_spec (ws := cw_C_isWellFormed :: TW) B.pre w (List.mem_cons_of_mem _ h)
  have hown : s.vm.findClass R_C = some m.cls := findClass_of_methodNamed B.named
  have hlocks := B.notSynchronized
  have hK := hE.1
  have hS : va_S A s.heap s.heap [] := va_S.rf
  have hl := lv_entry ([.ref o, .int x0, .int x1, .int x2, .int x3]) (n := 5) (Nat.le_of_ble_eq_true rfl)
  rw [lg_entry_eq]
  generalize (lg_sl ([.ref o, .int x0, .int x1, .int x2, .int x3]) ++ List.replicate (5 - (lg_sl ([.ref o, .int x0, .int x1, .int x2, .int x3])).length) Slot.unset).toArray = ls at hl ⊢
  have hl : lv_has ls 5 [(0, .ref o), (1, .int x0), (2, .int x1), (3, .int x2), (4, .int x3)] := hl
  obtain ⟨wa0, da0, ho0⟩ := CCs.o hR
  refine lv_iload_n hx hb d_C_isWellFormed_0 rfl (lv_at hl 1 rfl) ?_
  refine lv_if_lt (tgt := 10) hx hb d_C_isWellFormed_1 (by decide) (fun c1 => ?_) (fun c1 => ?_)
  · refine lv_iconst (v := (nI 0)) hx hb d_C_isWellFormed_10 (by decide) ?_
    exact x_zret hx hb hr hlocks hS hP hD (Nat.le_of_ble_eq_true rfl) (Nat.le_of_ble_eq_true rfl) d_C_isWellFormed_11 rfl (⟨rfl, Or.inr ⟨rfl, fun ⟨k, e, hk⟩ => by have h9 := hk.1; rw [e] at c1; exact nI_pos (by omega) c1⟩⟩)
  obtain ⟨kd, hkd, rfl⟩ := nI_of c1
  have s65 : ∀ (H : Heap) (locs : List Loc), va_P (xD G) CL ws H → va_S A s.heap H locs → (kd ≤ 9) → (2 ≤ kd → md E.length x1) → (2 ≤ kd → kd ≤ 7 → md E.length x2) → (kd = 7 → md E.length x3) → W p l e (headSpec (cw_C_isWellFormed :: TW) { frames := 3, cells := 0, slots := 0, locals := 78 }).room s m ([.ref o, .int (nI kd), .int x1, .int x2, .int x3] : List Value).toArray below meth c H locs 0 0 (MQ below (qI G A (fun r w9 => ws = w9 ∧ ((r = nI 1 ∧ wfx E.length (nI kd) x1 x2 x3) ∨ (r = nI 0 ∧ ¬ wfx E.length (nI kd) x1 x2 x3)))) ([.ref o, .int (nI kd), .int x1, .int x2, .int x3] : List Value).toArray s 0 0 A) (F0 m 65 ls []) := by
    intro H locs hP hS f9 fA fB fC
    refine lv_iload_n hx hb d_C_isWellFormed_65 rfl (lv_at hl 1 rfl) ?_
    refine lv_bipush (v := (nI 9)) hx hb d_C_isWellFormed_66 (by decide) ?_
    refine x_ne hx hb kd 9 rfl rfl (by omega) (by omega) (tgt := 81) d_C_isWellFormed_68 (by decide) (fun c1 => ?_) (fun c1 => ?_)
    · refine lv_iconst (v := (nI 1)) hx hb d_C_isWellFormed_81 (by decide) ?_
      refine lv_goto (tgt := 86) hx hb d_C_isWellFormed_82 (by decide) ?_
      exact x_zret hx hb hr hlocks hS hP hD (Nat.le_of_ble_eq_true rfl) (Nat.le_of_ble_eq_true rfl) d_C_isWellFormed_86 rfl (⟨rfl, Or.inl ⟨rfl, (wfx_iff hkd).mpr ⟨f9, fA, fB, fC, fun e => absurd e c1⟩⟩⟩)
    · refine lv_iload_n hx hb d_C_isWellFormed_71 rfl (lv_at hl 3 rfl) ?_
      refine lv_iconst (v := (nI 1)) hx hb d_C_isWellFormed_72 (by decide) ?_
      refine lv_icmp_lt (tgt := 85) hx hb d_C_isWellFormed_73 (by decide) (fun c2 => ?_) (fun c2 => ?_)
      · refine lv_iconst (v := (nI 0)) hx hb d_C_isWellFormed_85 (by decide) ?_
        exact x_zret hx hb hr hlocks hS hP hD (Nat.le_of_ble_eq_true rfl) (Nat.le_of_ble_eq_true rfl) d_C_isWellFormed_86 rfl (⟨rfl, Or.inr ⟨rfl, fun q => by rw [wfx_iff hkd] at q; obtain ⟨b, b1, b2, e⟩ := q.2.2.2.2 c1; rw [e] at c2; exact absurd ((nI_ltI (by omega) (by omega)).mp c2) (by omega)⟩⟩)
      · refine lv_iload_n hx hb d_C_isWellFormed_76 rfl (lv_at hl 3 rfl) ?_
        refine lv_iconst (v := (nI 5)) hx hb d_C_isWellFormed_77 (by decide) ?_
        refine lv_icmp_gt (tgt := 85) hx hb d_C_isWellFormed_78 (by decide) (fun c3 => ?_) (fun c3 => ?_)
        · refine lv_iconst (v := (nI 0)) hx hb d_C_isWellFormed_85 (by decide) ?_
          exact x_zret hx hb hr hlocks hS hP hD (Nat.le_of_ble_eq_true rfl) (Nat.le_of_ble_eq_true rfl) d_C_isWellFormed_86 rfl (⟨rfl, Or.inr ⟨rfl, fun q => by rw [wfx_iff hkd] at q; obtain ⟨b, b1, b2, e⟩ := q.2.2.2.2 c1; rw [e] at c3; exact absurd ((nI_ltI (by omega) (by omega)).mp c3) (by omega)⟩⟩)
        · refine lv_iconst (v := (nI 1)) hx hb d_C_isWellFormed_81 (by decide) ?_
          refine lv_goto (tgt := 86) hx hb d_C_isWellFormed_82 (by decide) ?_
          exact x_zret hx hb hr hlocks hS hP hD (Nat.le_of_ble_eq_true rfl) (Nat.le_of_ble_eq_true rfl) d_C_isWellFormed_86 rfl (⟨rfl, Or.inl ⟨rfl, (wfx_iff hkd).mpr ⟨f9, fA, fB, fC, fun _ => rng15 c2 c3⟩⟩⟩)
  have s48 : ∀ (H : Heap) (locs : List Loc), va_P (xD G) CL ws H → va_S A s.heap H locs → (kd ≤ 9) → (2 ≤ kd → md E.length x1) → (2 ≤ kd → kd ≤ 7 → md E.length x2) → W p l e (headSpec (cw_C_isWellFormed :: TW) { frames := 3, cells := 0, slots := 0, locals := 78 }).room s m ([.ref o, .int (nI kd), .int x1, .int x2, .int x3] : List Value).toArray below meth c H locs 0 0 (MQ below (qI G A (fun r w9 => ws = w9 ∧ ((r = nI 1 ∧ wfx E.length (nI kd) x1 x2 x3) ∨ (r = nI 0 ∧ ¬ wfx E.length (nI kd) x1 x2 x3)))) ([.ref o, .int (nI kd), .int x1, .int x2, .int x3] : List Value).toArray s 0 0 A) (F0 m 48 ls []) := by
    intro H locs hP hS f9 fA fB
    refine lv_iload_n hx hb d_C_isWellFormed_48 rfl (lv_at hl 1 rfl) ?_
    refine lv_bipush (v := (nI 7)) hx hb d_C_isWellFormed_49 (by decide) ?_
    refine x_ne hx hb kd 7 rfl rfl (by omega) (by omega) (tgt := 65) d_C_isWellFormed_51 (by decide) (fun c4 => ?_) (fun c4 => ?_)
    · exact s65 H locs hP hS f9 fA fB (fun e => absurd e c4)
    · refine lv_aload_n hx hb d_C_isWellFormed_54 rfl (lv_at hl 0 rfl) ?_
      refine lv_iload hx hb d_C_isWellFormed_55 (lv_at hl 4 rfl) ?_
      refine x_calli (va_runV (As := [.int x3]) (rest := []) ⟨hx, hb, hml, hown, ht⟩ (c_isMade l G A ws o z u lv le lk V E K inp w d wV wC hR bE x3) (cwV 1 ht (TW_V k_ml_C_82 k_im_C_isMade k_se_C_isMade k_in_C k_code_C_isMade) rfl rfl rfl hv_C_isMade ⟨Nat.le_of_ble_eq_true rfl, Nat.le_of_ble_eq_true rfl⟩) ⟨x_blind, va_recv hK hP rfl ho0, x_pre hE hA hS hP hD⟩ rfl rfl hl.1 rfl (lv_room (Nat.le_of_ble_eq_true rfl)) d_C_isWellFormed_57 ⟨Nat.le_of_ble_eq_true rfl, Nat.le_of_ble_eq_true rfl⟩) hS (fun r7 w6 H locs q5 hP hD hS => ?_)
      obtain ⟨rfl, ⟨rfl, hm⟩ | ⟨rfl, hm⟩⟩ := q5
      · refine x_if_ne hx hb 1 rfl (by omega) (tgt := 65) d_C_isWellFormed_60 (by decide) (fun c8 => ?_) (fun c8 => ?_)
        · exact s65 H locs hP hS f9 fA fB (fun _ => hm)
        · exact False.elim (by omega)
      · refine x_if_ne hx hb 0 rfl (by omega) (tgt := 65) d_C_isWellFormed_60 (by decide) (fun c9 => ?_) (fun c9 => ?_)
        · exact False.elim (by omega)
        · refine lv_iconst (v := (nI 0)) hx hb d_C_isWellFormed_63 (by decide) ?_
          exact x_zret hx hb hr hlocks hS hP hD (Nat.le_of_ble_eq_true rfl) (Nat.le_of_ble_eq_true rfl) d_C_isWellFormed_64 rfl (⟨rfl, Or.inr ⟨rfl, fun q => by rw [wfx_iff hkd] at q; exact hm (q.2.2.2.1 c4)⟩⟩)
  have s27 : ∀ (H : Heap) (locs : List Loc), va_P (xD G) CL ws H → va_S A s.heap H locs → (kd ≤ 9) → (2 ≤ kd → md E.length x1) → W p l e (headSpec (cw_C_isWellFormed :: TW) { frames := 3, cells := 0, slots := 0, locals := 78 }).room s m ([.ref o, .int (nI kd), .int x1, .int x2, .int x3] : List Value).toArray below meth c H locs 0 0 (MQ below (qI G A (fun r w9 => ws = w9 ∧ ((r = nI 1 ∧ wfx E.length (nI kd) x1 x2 x3) ∨ (r = nI 0 ∧ ¬ wfx E.length (nI kd) x1 x2 x3)))) ([.ref o, .int (nI kd), .int x1, .int x2, .int x3] : List Value).toArray s 0 0 A) (F0 m 27 ls []) := by
    intro H locs hP hS f9 fA
    refine lv_iload_n hx hb d_C_isWellFormed_27 rfl (lv_at hl 1 rfl) ?_
    refine lv_iconst (v := (nI 2)) hx hb d_C_isWellFormed_28 (by decide) ?_
    refine x_lt hx hb kd 2 rfl rfl (by omega) (by omega) (tgt := 48) d_C_isWellFormed_29 (by decide) (fun c10 => ?_) (fun c10 => ?_)
    · exact s48 H locs hP hS f9 fA (fun e => absurd e (by omega))
    · refine lv_iload_n hx hb d_C_isWellFormed_32 rfl (lv_at hl 1 rfl) ?_
      refine lv_bipush (v := (nI 7)) hx hb d_C_isWellFormed_33 (by decide) ?_
      refine x_gt hx hb kd 7 rfl rfl (by omega) (by omega) (tgt := 48) d_C_isWellFormed_35 (by decide) (fun c11 => ?_) (fun c11 => ?_)
      · exact s48 H locs hP hS f9 fA (fun _ e => absurd e (by omega))
      · refine lv_aload_n hx hb d_C_isWellFormed_38 rfl (lv_at hl 0 rfl) ?_
        refine lv_iload_n hx hb d_C_isWellFormed_39 rfl (lv_at hl 3 rfl) ?_
        refine x_calli (va_runV (As := [.int x2]) (rest := []) ⟨hx, hb, hml, hown, ht⟩ (c_isMade l G A ws o z u lv le lk V E K inp w d wV wC hR bE x2) (cwV 1 ht (TW_V k_ml_C_82 k_im_C_isMade k_se_C_isMade k_in_C k_code_C_isMade) rfl rfl rfl hv_C_isMade ⟨Nat.le_of_ble_eq_true rfl, Nat.le_of_ble_eq_true rfl⟩) ⟨x_blind, va_recv hK hP rfl ho0, x_pre hE hA hS hP hD⟩ rfl rfl hl.1 rfl (lv_room (Nat.le_of_ble_eq_true rfl)) d_C_isWellFormed_40 ⟨Nat.le_of_ble_eq_true rfl, Nat.le_of_ble_eq_true rfl⟩) hS (fun r14 w13 H locs q12 hP hD hS => ?_)
        obtain ⟨rfl, ⟨rfl, hm⟩ | ⟨rfl, hm⟩⟩ := q12
        · refine x_if_ne hx hb 1 rfl (by omega) (tgt := 48) d_C_isWellFormed_43 (by decide) (fun c15 => ?_) (fun c15 => ?_)
          · exact s48 H locs hP hS f9 fA (fun _ _ => hm)
          · exact False.elim (by omega)
        · refine x_if_ne hx hb 0 rfl (by omega) (tgt := 48) d_C_isWellFormed_43 (by decide) (fun c16 => ?_) (fun c16 => ?_)
          · exact False.elim (by omega)
          · refine lv_iconst (v := (nI 0)) hx hb d_C_isWellFormed_46 (by decide) ?_
            exact x_zret hx hb hr hlocks hS hP hD (Nat.le_of_ble_eq_true rfl) (Nat.le_of_ble_eq_true rfl) d_C_isWellFormed_47 rfl (⟨rfl, Or.inr ⟨rfl, fun q => by rw [wfx_iff hkd] at q; exact hm (q.2.2.1 c10 c11)⟩⟩)
  refine lv_iload_n hx hb d_C_isWellFormed_4 rfl (lv_at hl 1 rfl) ?_
  refine lv_bipush (v := (nI 9)) hx hb d_C_isWellFormed_5 (by decide) ?_
  refine x_le hx hb kd 9 rfl rfl (by omega) (by omega) (tgt := 12) d_C_isWellFormed_7 (by decide) (fun c17 => ?_) (fun c17 => ?_)
  · have f9 := c17
    refine lv_iload_n hx hb d_C_isWellFormed_12 rfl (lv_at hl 1 rfl) ?_
    refine lv_iconst (v := (nI 2)) hx hb d_C_isWellFormed_13 (by decide) ?_
    refine x_lt hx hb kd 2 rfl rfl (by omega) (by omega) (tgt := 27) d_C_isWellFormed_14 (by decide) (fun c18 => ?_) (fun c18 => ?_)
    · exact s27 s.heap [] hP hS f9 (fun e => absurd e (by omega))
    · refine lv_aload_n hx hb d_C_isWellFormed_17 rfl (lv_at hl 0 rfl) ?_
      refine lv_iload_n hx hb d_C_isWellFormed_18 rfl (lv_at hl 2 rfl) ?_
      refine x_calli (va_runV (As := [.int x1]) (rest := []) ⟨hx, hb, hml, hown, ht⟩ (c_isMade l G A ws o z u lv le lk V E K inp w d wV wC hR bE x1) (cwV 1 ht (TW_V k_ml_C_82 k_im_C_isMade k_se_C_isMade k_in_C k_code_C_isMade) rfl rfl rfl hv_C_isMade ⟨Nat.le_of_ble_eq_true rfl, Nat.le_of_ble_eq_true rfl⟩) ⟨x_blind, va_recv hK hP rfl ho0, x_pre hE hA hS hP hD⟩ rfl rfl hl.1 rfl (lv_room (Nat.le_of_ble_eq_true rfl)) d_C_isWellFormed_19 ⟨Nat.le_of_ble_eq_true rfl, Nat.le_of_ble_eq_true rfl⟩) hS (fun r21 w20 H locs q19 hP hD hS => ?_)
      obtain ⟨rfl, ⟨rfl, hm⟩ | ⟨rfl, hm⟩⟩ := q19
      · refine x_if_ne hx hb 1 rfl (by omega) (tgt := 27) d_C_isWellFormed_22 (by decide) (fun c22 => ?_) (fun c22 => ?_)
        · exact s27 H locs hP hS f9 (fun _ => hm)
        · exact False.elim (by omega)
      · refine x_if_ne hx hb 0 rfl (by omega) (tgt := 27) d_C_isWellFormed_22 (by decide) (fun c23 => ?_) (fun c23 => ?_)
        · exact False.elim (by omega)
        · refine lv_iconst (v := (nI 0)) hx hb d_C_isWellFormed_25 (by decide) ?_
          exact x_zret hx hb hr hlocks hS hP hD (Nat.le_of_ble_eq_true rfl) (Nat.le_of_ble_eq_true rfl) d_C_isWellFormed_26 rfl (⟨rfl, Or.inr ⟨rfl, fun q => by rw [wfx_iff hkd] at q; exact hm (q.2.1 c18)⟩⟩)
  · refine lv_iconst (v := (nI 0)) hx hb d_C_isWellFormed_10 (by decide) ?_
    exact x_zret hx hb hr hlocks hS hP hD (Nat.le_of_ble_eq_true rfl) (Nat.le_of_ble_eq_true rfl) d_C_isWellFormed_11 rfl (⟨rfl, Or.inr ⟨rfl, fun q => by rw [wfx_iff hkd] at q; exact absurd q.1 (by omega)⟩⟩)
