set_option maxHeartbeats 4000000 in
set_option maxRecDepth 100000 in
theorem c_need (l : Launch) (G : xG) (A : Nat → Prop) (ws : va_W) (o z u lv le lk : Nat) (V : List VV) (E : List EE) (K : List KK) (inp : Nat) (w d : Nat → Nat) (wV wC : Nat) (hR : CCs G ws o z u lv le lk V E K inp w d wV wC) (bE : E.length ≤ 60) (kd : Nat) (x1 x2 x3 : Int32) (hw : wfd kd E.length x1 x2 x3) : Met l y_C_constraintsNeeded (cw_C_constraintsNeeded :: TW) { frames := 6, cells := 2, slots := 61, locals := 156 } (va_Pc [.ref o, .int (nI kd), .int x1, .int x2, .int x3] (x_P G A ws)) (qI G A (fun r w9 => r = nI (nd kd E x1 x2 x3) ∧ CCs G w9 o z u lv le lk V E K inp w d wV wC ∧ kp ws w9)) 2 61 A := by
  refine Met.ofW (cc := b_C_constraintsNeeded) (maxL := 5) (ret := (some .int)) (by decide) rfl ?_
  intro p e s m args below meth c s₁ B hml hv
  obtain ⟨rfl, hE, hA, hP, hD⟩ := hv
  have hx := B.exec
  have hb := B.bytes
  have hr := B.returns
  have ht : ∀ w ∈ TW, w.before _ s = true := fun w h => atoms_spec (ws := cw_C_constraintsNeeded :: TW) B.pre w (List.mem_cons_of_mem _ h)
  have hown : s.vm.findClass R_C = some m.cls := findClass_of_methodNamed B.named
  have hlocks := B.notSynchronized
  have hK := hE.1
  have hS : va_S A s.heap s.heap [] := va_S.rf
  have hl := lv_entry ([.ref o, .int (nI kd), .int x1, .int x2, .int x3]) (n := 5) (Nat.le_of_ble_eq_true rfl)
  rw [lg_entry_eq]
  generalize (lg_sl ([.ref o, .int (nI kd), .int x1, .int x2, .int x3]) ++ List.replicate (5 - (lg_sl ([.ref o, .int (nI kd), .int x1, .int x2, .int x3])).length) Slot.unset).toArray = ls at hl ⊢
  have hl : lv_has ls 5 [(0, .ref o), (1, .int (nI kd)), (2, .int x1), (3, .int x2), (4, .int x3)] := hl
  obtain ⟨wa0, da0, ho0⟩ := CCs.o hR
  obtain ⟨w1, w2, w3, w4, w5⟩ := hw
  have hk9 : kd = 0 ∨ kd = 1 ∨ kd = 2 ∨ kd = 3 ∨ kd = 4 ∨ kd = 5 ∨ kd = 6 ∨ kd = 7 ∨ kd = 8 ∨ kd = 9 := by omega
  rcases hk9 with rfl | rfl | rfl | rfl | rfl | rfl | rfl | rfl | rfl | rfl
  · refine lv_iload_n hx hb d_C_constraintsNeeded_0 rfl (lv_at hl 1 rfl) ?_
    refine lv_tableOut (tgt := 90) hx hb d_C_constraintsNeeded_1 (by decide) (by decide) ?_
    refine lv_iconst (v := (nI 0)) hx hb d_C_constraintsNeeded_90 (by decide) ?_
    exact x_iret hx hb hr hlocks hS hP hD (Nat.le_of_ble_eq_true rfl) (Nat.le_of_ble_eq_true rfl) d_C_constraintsNeeded_91 (⟨rfl, hR, kp.rf⟩)
  · refine lv_iload_n hx hb d_C_constraintsNeeded_0 rfl (lv_at hl 1 rfl) ?_
    refine lv_tableOut (tgt := 90) hx hb d_C_constraintsNeeded_1 (by decide) (by decide) ?_
    refine lv_iconst (v := (nI 0)) hx hb d_C_constraintsNeeded_90 (by decide) ?_
    exact x_iret hx hb hr hlocks hS hP hD (Nat.le_of_ble_eq_true rfl) (Nat.le_of_ble_eq_true rfl) d_C_constraintsNeeded_91 (⟨rfl, hR, kp.rf⟩)
  · refine lv_iload_n hx hb d_C_constraintsNeeded_0 rfl (lv_at hl 1 rfl) ?_
    refine lv_tableOut (tgt := 90) hx hb d_C_constraintsNeeded_1 (by decide) (by decide) ?_
    refine lv_iconst (v := (nI 0)) hx hb d_C_constraintsNeeded_90 (by decide) ?_
    exact x_iret hx hb hr hlocks hS hP hD (Nat.le_of_ble_eq_true rfl) (Nat.le_of_ble_eq_true rfl) d_C_constraintsNeeded_91 (⟨rfl, hR, kp.rf⟩)
  · refine lv_iload_n hx hb d_C_constraintsNeeded_0 rfl (lv_at hl 1 rfl) ?_
    refine lv_tableOut (tgt := 90) hx hb d_C_constraintsNeeded_1 (by decide) (by decide) ?_
    refine lv_iconst (v := (nI 0)) hx hb d_C_constraintsNeeded_90 (by decide) ?_
    exact x_iret hx hb hr hlocks hS hP hD (Nat.le_of_ble_eq_true rfl) (Nat.le_of_ble_eq_true rfl) d_C_constraintsNeeded_91 (⟨rfl, hR, kp.rf⟩)
  · refine lv_iload_n hx hb d_C_constraintsNeeded_0 rfl (lv_at hl 1 rfl) ?_
    refine lv_tableIn (off := 39) (tgt := 40) hx hb d_C_constraintsNeeded_1 (by decide) (by decide) (by decide) (by decide) ?_
    obtain ⟨a, ga, rfl⟩ := w2 (by decide)
    obtain ⟨b, gb, rfl⟩ := w3 (by decide) (by decide)
    refine lv_aload_n hx hb d_C_constraintsNeeded_40 rfl (lv_at hl 0 rfl) ?_
    refine lv_iload_n hx hb d_C_constraintsNeeded_41 rfl (lv_at hl 2 rfl) ?_
    refine x_callr (va_runV (As := [.int (nI a)]) (rest := []) ⟨hx, hb, hml, hown, ht⟩ (c_sumOf l G A ws o z u lv le lk V E K inp w d wV wC hR bE a ga) (cwV 1 ht (TW_V k_ml_C_94 k_im_C_sumOf k_se_C_sumOf k_in_C k_code_C_sumOf) rfl rfl rfl hv_C_sumOf ⟨Nat.le_of_ble_eq_true rfl, Nat.le_of_ble_eq_true rfl⟩) ⟨x_blind, va_recv hK hP rfl ho0, x_pre hE hA hS hP hD⟩ rfl rfl hl.1 rfl (lv_room (Nat.le_of_ble_eq_true rfl)) d_C_constraintsNeeded_42 ⟨Nat.le_of_ble_eq_true rfl, Nat.le_of_ble_eq_true rfl⟩) hS (fun r3 w2 H locs q1 hP hD hS => ?_)
    obtain ⟨rfl, ir3⟩ := q1
    refine lv_aload_n hx hb d_C_constraintsNeeded_45 rfl (lv_at hl 0 rfl) ?_
    refine lv_iload_n hx hb d_C_constraintsNeeded_46 rfl (lv_at hl 3 rfl) ?_
    refine x_callr (va_runV (As := [.int (nI b)]) (rest := [.ref r3]) ⟨hx, hb, hml, hown, ht⟩ (c_sumOf l G A ws o z u lv le lk V E K inp w d wV wC hR bE b gb) (cwV 1 ht (TW_V k_ml_C_94 k_im_C_sumOf k_se_C_sumOf k_in_C k_code_C_sumOf) rfl rfl rfl hv_C_sumOf ⟨Nat.le_of_ble_eq_true rfl, Nat.le_of_ble_eq_true rfl⟩) ⟨x_blind, va_recv hK hP rfl ho0, x_pre hE hA hS hP hD⟩ rfl rfl hl.1 rfl (lv_room (Nat.le_of_ble_eq_true rfl)) d_C_constraintsNeeded_47 ⟨Nat.le_of_ble_eq_true rfl, Nat.le_of_ble_eq_true rfl⟩) hS (fun r6 w5 H locs q4 hP hD hS => ?_)
    obtain ⟨rfl, ir6⟩ := q4
    refine x_calli (va_runS (As := [.ref r3, .ref r6]) (rest := []) ⟨hx, hb, hml, hown, ht⟩ (c_cop l G A ws r3 r6 _ _ ir3 ir6) (va_cwS 2 ht (TW_S k_ml_C_185 k_st_C_constraintsOfProduct k_in_C k_code_C_constraintsOfProduct) rfl rfl rfl hv_C_constraintsOfProduct.2 ⟨Nat.le_of_ble_eq_true rfl, Nat.le_of_ble_eq_true rfl⟩) ⟨x_blind, x_pre hE hA hS hP hD⟩ rfl rfl hl.1 rfl (lv_room (Nat.le_of_ble_eq_true rfl)) d_C_constraintsNeeded_50 ⟨Nat.le_of_ble_eq_true rfl, Nat.le_of_ble_eq_true rfl⟩) hS (fun r9 w8 H locs q7 hP hD hS => ?_)
    obtain ⟨rfl, rfl⟩ := q7
    exact x_iret hx hb hr hlocks hS hP hD (Nat.le_of_ble_eq_true rfl) (Nat.le_of_ble_eq_true rfl) d_C_constraintsNeeded_53 (⟨by simp [nd, ix_nI (show a < 2 ^ 31 by omega), ix_nI (show b < 2 ^ 31 by omega)], hR, kp.rf⟩)
  · refine lv_iload_n hx hb d_C_constraintsNeeded_0 rfl (lv_at hl 1 rfl) ?_
    refine lv_tableIn (off := 53) (tgt := 54) hx hb d_C_constraintsNeeded_1 (by decide) (by decide) (by decide) (by decide) ?_
    refine lv_iconst (v := (nI 2)) hx hb d_C_constraintsNeeded_54 (by decide) ?_
    exact x_iret hx hb hr hlocks hS hP hD (Nat.le_of_ble_eq_true rfl) (Nat.le_of_ble_eq_true rfl) d_C_constraintsNeeded_55 (⟨rfl, hR, kp.rf⟩)
  · refine lv_iload_n hx hb d_C_constraintsNeeded_0 rfl (lv_at hl 1 rfl) ?_
    refine lv_tableIn (off := 53) (tgt := 54) hx hb d_C_constraintsNeeded_1 (by decide) (by decide) (by decide) (by decide) ?_
    refine lv_iconst (v := (nI 2)) hx hb d_C_constraintsNeeded_54 (by decide) ?_
    exact x_iret hx hb hr hlocks hS hP hD (Nat.le_of_ble_eq_true rfl) (Nat.le_of_ble_eq_true rfl) d_C_constraintsNeeded_55 (⟨rfl, hR, kp.rf⟩)
  · refine lv_iload_n hx hb d_C_constraintsNeeded_0 rfl (lv_at hl 1 rfl) ?_
    refine lv_tableIn (off := 55) (tgt := 56) hx hb d_C_constraintsNeeded_1 (by decide) (by decide) (by decide) (by decide) ?_
    obtain ⟨a, ga, rfl⟩ := w2 (by decide)
    obtain ⟨b, gb, rfl⟩ := w3 (by decide) (by decide)
    obtain ⟨c9, gc9, rfl⟩ := w4 rfl
    refine lv_aload_n hx hb d_C_constraintsNeeded_56 rfl (lv_at hl 0 rfl) ?_
    refine lv_iload hx hb d_C_constraintsNeeded_57 (lv_at hl 4 rfl) ?_
    refine x_callr (va_runV (As := [.int (nI c9)]) (rest := []) ⟨hx, hb, hml, hown, ht⟩ (c_sumOf l G A ws o z u lv le lk V E K inp w d wV wC hR bE c9 gc9) (cwV 1 ht (TW_V k_ml_C_94 k_im_C_sumOf k_se_C_sumOf k_in_C k_code_C_sumOf) rfl rfl rfl hv_C_sumOf ⟨Nat.le_of_ble_eq_true rfl, Nat.le_of_ble_eq_true rfl⟩) ⟨x_blind, va_recv hK hP rfl ho0, x_pre hE hA hS hP hD⟩ rfl rfl hl.1 rfl (lv_room (Nat.le_of_ble_eq_true rfl)) d_C_constraintsNeeded_59 ⟨Nat.le_of_ble_eq_true rfl, Nat.le_of_ble_eq_true rfl⟩) hS (fun r12 w11 H locs q10 hP hD hS => ?_)
    obtain ⟨rfl, ir12⟩ := q10
    refine lv_aload_n hx hb d_C_constraintsNeeded_62 rfl (lv_at hl 0 rfl) ?_
    refine lv_iload_n hx hb d_C_constraintsNeeded_63 rfl (lv_at hl 2 rfl) ?_
    refine lv_iload_n hx hb d_C_constraintsNeeded_64 rfl (lv_at hl 3 rfl) ?_
    refine x_callr (va_runV (As := [.int (nI a), .int (nI b)]) (rest := [.ref r12]) ⟨hx, hb, hml, hown, ht⟩ (c_diff l G A ws o z u lv le lk V E K inp w d wV wC hR bE a b ga gb) (cwV 2 ht (TW_V k_ml_C_86 k_im_C_difference k_se_C_difference k_in_C k_code_C_difference) rfl rfl rfl hv_C_difference ⟨Nat.le_of_ble_eq_true rfl, Nat.le_of_ble_eq_true rfl⟩) ⟨x_blind, va_recv hK hP rfl ho0, x_pre hE hA hS hP hD⟩ rfl rfl hl.1 rfl (lv_room (Nat.le_of_ble_eq_true rfl)) d_C_constraintsNeeded_65 ⟨Nat.le_of_ble_eq_true rfl, Nat.le_of_ble_eq_true rfl⟩) hS (fun r15 w14 H locs q13 hP hD hS => ?_)
    refine W.widen (k := 2) (n := 61) (Nat.le_of_ble_eq_true rfl) (Nat.le_of_ble_eq_true rfl) ?_
    obtain ⟨hR1, kk1, iD⟩ := mkS_CC hR q13 (fun j _ => cmb_lt j)
    refine x_calli (va_runS (As := [.ref r12, .ref r15]) (rest := []) ⟨hx, hb, hml, hown, ht⟩ (c_cop l G A w14 r12 r15 _ _ (ir12.kp kk1) iD) (va_cwS 2 ht (TW_S k_ml_C_185 k_st_C_constraintsOfProduct k_in_C k_code_C_constraintsOfProduct) rfl rfl rfl hv_C_constraintsOfProduct.2 ⟨Nat.le_of_ble_eq_true rfl, Nat.le_of_ble_eq_true rfl⟩) ⟨x_blind, x_pre hE hA hS hP hD⟩ rfl rfl hl.1 rfl (lv_room (Nat.le_of_ble_eq_true rfl)) d_C_constraintsNeeded_68 ⟨Nat.le_of_ble_eq_true rfl, Nat.le_of_ble_eq_true rfl⟩) hS (fun r18 w17 H locs q16 hP hD hS => ?_)
    obtain ⟨rfl, rfl⟩ := q16
    exact x_iret hx hb hr hlocks hS hP hD (Nat.le_of_ble_eq_true rfl) (Nat.le_of_ble_eq_true rfl) d_C_constraintsNeeded_71 (⟨by simp [nd, ix_nI (show a < 2 ^ 31 by omega), ix_nI (show b < 2 ^ 31 by omega), ix_nI (show c9 < 2 ^ 31 by omega)], hR1, kk1⟩)
  · refine lv_iload_n hx hb d_C_constraintsNeeded_0 rfl (lv_at hl 1 rfl) ?_
    refine lv_tableIn (off := 89) (tgt := 90) hx hb d_C_constraintsNeeded_1 (by decide) (by decide) (by decide) (by decide) ?_
    refine lv_iconst (v := (nI 0)) hx hb d_C_constraintsNeeded_90 (by decide) ?_
    exact x_iret hx hb hr hlocks hS hP hD (Nat.le_of_ble_eq_true rfl) (Nat.le_of_ble_eq_true rfl) d_C_constraintsNeeded_91 (⟨rfl, hR, kp.rf⟩)
  · refine lv_iload_n hx hb d_C_constraintsNeeded_0 rfl (lv_at hl 1 rfl) ?_
    refine lv_tableIn (off := 71) (tgt := 72) hx hb d_C_constraintsNeeded_1 (by decide) (by decide) (by decide) (by decide) ?_
    obtain ⟨a, ga, rfl⟩ := w2 (by decide)
    obtain ⟨b, hb1, hb5, rfl⟩ := w5 rfl
    refine lv_iload_n hx hb d_C_constraintsNeeded_72 rfl (lv_at hl 3 rfl) ?_
    refine lv_iconst (v := (nI 1)) hx hb d_C_constraintsNeeded_73 (by decide) ?_
    refine lv_isub hx hb d_C_constraintsNeeded_74 ?_
    refine x_top (nI (b - 1)) (pk_sub (by omega)) ?_
    refine lv_aload_n hx hb d_C_constraintsNeeded_75 rfl (lv_at hl 0 rfl) ?_
    refine lv_iload_n hx hb d_C_constraintsNeeded_76 rfl (lv_at hl 2 rfl) ?_
    refine x_callr (va_runV (As := [.int (nI a)]) (rest := [.int (nI (b - 1))]) ⟨hx, hb, hml, hown, ht⟩ (c_sumOf l G A ws o z u lv le lk V E K inp w d wV wC hR bE a ga) (cwV 1 ht (TW_V k_ml_C_94 k_im_C_sumOf k_se_C_sumOf k_in_C k_code_C_sumOf) rfl rfl rfl hv_C_sumOf ⟨Nat.le_of_ble_eq_true rfl, Nat.le_of_ble_eq_true rfl⟩) ⟨x_blind, va_recv hK hP rfl ho0, x_pre hE hA hS hP hD⟩ rfl rfl hl.1 rfl (lv_room (Nat.le_of_ble_eq_true rfl)) d_C_constraintsNeeded_77 ⟨Nat.le_of_ble_eq_true rfl, Nat.le_of_ble_eq_true rfl⟩) hS (fun r21 w20 H locs q19 hP hD hS => ?_)
    obtain ⟨rfl, ir21⟩ := q19
    refine lv_aload_n hx hb d_C_constraintsNeeded_80 rfl (lv_at hl 0 rfl) ?_
    refine lv_iload_n hx hb d_C_constraintsNeeded_81 rfl (lv_at hl 2 rfl) ?_
    refine x_callr (va_runV (As := [.int (nI a)]) (rest := [.ref r21, .int (nI (b - 1))]) ⟨hx, hb, hml, hown, ht⟩ (c_sumOf l G A ws o z u lv le lk V E K inp w d wV wC hR bE a ga) (cwV 1 ht (TW_V k_ml_C_94 k_im_C_sumOf k_se_C_sumOf k_in_C k_code_C_sumOf) rfl rfl rfl hv_C_sumOf ⟨Nat.le_of_ble_eq_true rfl, Nat.le_of_ble_eq_true rfl⟩) ⟨x_blind, va_recv hK hP rfl ho0, x_pre hE hA hS hP hD⟩ rfl rfl hl.1 rfl (lv_room (Nat.le_of_ble_eq_true rfl)) d_C_constraintsNeeded_82 ⟨Nat.le_of_ble_eq_true rfl, Nat.le_of_ble_eq_true rfl⟩) hS (fun r24 w23 H locs q22 hP hD hS => ?_)
    obtain ⟨rfl, ir24⟩ := q22
    refine x_calli (va_runS (As := [.ref r21, .ref r24]) (rest := [.int (nI (b - 1))]) ⟨hx, hb, hml, hown, ht⟩ (c_cop l G A ws r21 r24 _ _ ir21 ir24) (va_cwS 2 ht (TW_S k_ml_C_185 k_st_C_constraintsOfProduct k_in_C k_code_C_constraintsOfProduct) rfl rfl rfl hv_C_constraintsOfProduct.2 ⟨Nat.le_of_ble_eq_true rfl, Nat.le_of_ble_eq_true rfl⟩) ⟨x_blind, x_pre hE hA hS hP hD⟩ rfl rfl hl.1 rfl (lv_room (Nat.le_of_ble_eq_true rfl)) d_C_constraintsNeeded_85 ⟨Nat.le_of_ble_eq_true rfl, Nat.le_of_ble_eq_true rfl⟩) hS (fun r27 w26 H locs q25 hP hD hS => ?_)
    obtain ⟨rfl, rfl⟩ := q25
    refine lv_imul hx hb d_C_constraintsNeeded_88 ?_
    refine x_top (nI ((b - 1) * (cp (sE E a) (sE E a)))) (pk_mul _ _) ?_
    exact x_iret hx hb hr hlocks hS hP hD (Nat.le_of_ble_eq_true rfl) (Nat.le_of_ble_eq_true rfl) d_C_constraintsNeeded_89 (⟨by simp [nd, ix_nI (show a < 2 ^ 31 by omega), ix_nI (show b < 2 ^ 31 by omega)], hR, kp.rf⟩)

/-- there is room for an expression -/
def room (kd : Nat) (V : List VV) (E : List EE) (K : List KK) (x1 x2 x3 : Int32) : Prop := E.length < 60 ∧ V.length + (if kd = 1 then 1 else nd kd E x1 x2 x3) ≤ 60 ∧ K.length + nd kd E x1 x2 x3 ≤ 80
theorem nd_le {kd n : Nat} {E : List EE} {x1 x2 x3 : Int32} (hw : wfd kd n x1 x2 x3) : nd kd E x1 x2 x3 ≤ 4 := by
  unfold nd
  have c1 := cp_le (sE E (ix x1)) (sE E (ix x2))
  have c2 := cp_le (sE E (ix x3)) (cmb 1 (sE E (ix x1)) 96 (sE E (ix x2)))
  have c3 := cp_le (sE E (ix x1)) (sE E (ix x1))
  split
  · omega
  · split
    · omega
    · split
      · omega
      · split
        · omega
        · split
          · rename_i h
            obtain ⟨b, hb1, hb5, rfl⟩ := hw.2.2.2.2 h
            rw [ix_nI (by omega)]
            exact Nat.le_trans (Nat.mul_le_mul (show b - 1 ≤ 4 by omega) c3) (by decide)
          · omega

set_option maxHeartbeats 4000000 in
set_option maxRecDepth 100000 in
theorem c_room (l : Launch) (G : xG) (A : Nat → Prop) (ws : va_W) (o z u lv le lk : Nat) (V : List VV) (E : List EE) (K : List KK) (inp : Nat) (w d : Nat → Nat) (wV wC : Nat) (hR : CCs G ws o z u lv le lk V E K inp w d wV wC) (bE : E.length ≤ 60) (bV : V.length ≤ 60) (bK : K.length ≤ 80) (kd : Nat) (x1 x2 x3 : Int32) (hw : wfd kd E.length x1 x2 x3) : Met l y_C_hasRoomFor (cw_C_hasRoomFor :: TW) { frames := 7, cells := 2, slots := 61, locals := 182 } (va_Pc [.ref o, .int (nI kd), .int x1, .int x2, .int x3] (x_P G A ws)) (qI G A (fun r w9 => ((r = nI 1 ∧ room kd V E K x1 x2 x3) ∨ (r = nI 0 ∧ ¬ room kd V E K x1 x2 x3)) ∧ CCs G w9 o z u lv le lk V E K inp w d wV wC ∧ kp ws w9)) 2 61 A := by
  refine Met.ofW (cc := b_C_hasRoomFor) (maxL := 7) (ret := (some .boolean)) (by decide) rfl ?_
  intro p e s m args below meth c s₁ B hml hv
  obtain ⟨rfl, hE, hA, hP, hD⟩ := hv
  have hx := B.exec
  have hb := B.bytes
  have hr := B.returns
  have ht : ∀ w ∈ TW, w.before _ s = true := fun w h => atoms_spec (ws := cw_C_hasRoomFor :: TW) B.pre w (List.mem_cons_of_mem _ h)
  have hown : s.vm.findClass R_C = some m.cls := findClass_of_methodNamed B.named
  have hlocks := B.notSynchronized
  have hK := hE.1
  have hS : va_S A s.heap s.heap [] := va_S.rf
  have hl := lv_entry ([.ref o, .int (nI kd), .int x1, .int x2, .int x3]) (n := 7) (Nat.le_of_ble_eq_true rfl)
  rw [lg_entry_eq]
  generalize (lg_sl ([.ref o, .int (nI kd), .int x1, .int x2, .int x3]) ++ List.replicate (7 - (lg_sl ([.ref o, .int (nI kd), .int x1, .int x2, .int x3])).length) Slot.unset).toArray = ls at hl ⊢
  have hl : lv_has ls 7 [(0, .ref o), (1, .int (nI kd)), (2, .int x1), (3, .int x2), (4, .int x3)] := hl
  obtain ⟨wa0, da0, ho0⟩ := CCs.o hR
  have n4 := nd_le (E := E) hw
  refine lv_aload_n hx hb d_C_hasRoomFor_0 rfl (lv_at hl 0 rfl) ?_
  refine lv_iload_n hx hb d_C_hasRoomFor_1 rfl (lv_at hl 1 rfl) ?_
  refine lv_iload_n hx hb d_C_hasRoomFor_2 rfl (lv_at hl 2 rfl) ?_
  refine lv_iload_n hx hb d_C_hasRoomFor_3 rfl (lv_at hl 3 rfl) ?_
  refine lv_iload hx hb d_C_hasRoomFor_4 (lv_at hl 4 rfl) ?_
  refine x_calli (va_runV (As := [.int (nI kd), .int x1, .int x2, .int x3]) (rest := []) ⟨hx, hb, hml, hown, ht⟩ (c_need l G A ws o z u lv le lk V E K inp w d wV wC hR bE kd x1 x2 x3 hw) (cwV 4 ht (TW_V k_ml_C_181 k_im_C_constraintsNeeded k_se_C_constraintsNeeded k_in_C k_code_C_constraintsNeeded) rfl rfl rfl hv_C_constraintsNeeded ⟨Nat.le_of_ble_eq_true rfl, Nat.le_of_ble_eq_true rfl⟩) ⟨x_blind, va_recv hK hP rfl ho0, x_pre hE hA hS hP hD⟩ rfl rfl hl.1 rfl (lv_room (Nat.le_of_ble_eq_true rfl)) d_C_hasRoomFor_6 ⟨Nat.le_of_ble_eq_true rfl, Nat.le_of_ble_eq_true rfl⟩) hS (fun r3 w2 H locs q1 hP hD hS => ?_)
  refine W.widen (k := 2) (n := 61) (Nat.le_of_ble_eq_true rfl) (Nat.le_of_ble_eq_true rfl) ?_
  obtain ⟨rfl, hR1, kk1⟩ := q1
  obtain ⟨nn, en⟩ : ∃ nn, nn = nd kd E x1 x2 x3 := ⟨_, rfl⟩
  rw [← en] at n4 ⊢
  have hk9 := hw.1
  obtain ⟨wa_, da_, kV_, kE_, kK_, gV_, gE_, gK_, hX_⟩ := id hR1
  obtain ⟨x1_, x2_, x3_, x4_, x5_, x6_, x7_, x8_, x9_, x10_, x11_, x12_, x13_⟩ := id hX_
  obtain ⟨mo_v_, ae_v_, li_v_, -⟩ := id x4_
  obtain ⟨mo_e_, ae_e_, li_e_, -⟩ := id x5_
  obtain ⟨mo_k_, ae_k_, li_k_, -⟩ := id x6_
  refine lv_istore (lv' := [(5, .int (nI nn)), (0, .ref o), (1, .int (nI kd)), (2, .int x1), (3, .int x2), (4, .int x3)]) hx hb d_C_hasRoomFor_9 hl (by decide) rfl (fun ls hl => ?_)
  refine lv_iload_n hx hb d_C_hasRoomFor_11 rfl (lv_at hl 2 rfl) ?_
  refine lv_iconst (v := (nI 1)) hx hb d_C_hasRoomFor_12 (by decide) ?_
  obtain ⟨mm, em⟩ : ∃ mm, mm = if kd = 1 then 1 else nn := ⟨_, rfl⟩
  have m4 : mm ≤ 4 := by rw [em]; split <;> omega
  have rr : room kd V E K x1 x2 x3 ↔ (E.length < 60 ∧ V.length + mm ≤ 60 ∧ K.length + nn ≤ 80) := by unfold room; rw [em, en]
  have go : ∀ ls : Array Slot, lv_has ls 7 [(6, .int (nI mm)), (5, .int (nI nn)), (0, .ref o), (1, .int (nI kd)), (2, .int x1), (3, .int x2), (4, .int x3)] → W p l e (headSpec (cw_C_hasRoomFor :: TW) { frames := 7, cells := 2, slots := 61, locals := 182 }).room s m ([.ref o, .int (nI kd), .int x1, .int x2, .int x3] : List Value).toArray below meth c H locs 2 61 (MQ below (qI G A (fun r w9 => ((r = nI 1 ∧ room kd V E K x1 x2 x3) ∨ (r = nI 0 ∧ ¬ room kd V E K x1 x2 x3)) ∧ CCs G w9 o z u lv le lk V E K inp w d wV wC ∧ kp ws w9)) ([.ref o, .int (nI kd), .int x1, .int x2, .int x3] : List Value).toArray s 2 61 A) (F0 m 24 ls []) := by
    intro ls hl
    refine lv_aload_n hx hb d_C_hasRoomFor_24 rfl (lv_at hl 2 rfl) ?_
    refine va_get (D := xD G) (ci := 0) (C := R_C) (T := F_C) (N := 10) hx hb ht in_C hown hK hP 0 x1_ rfl 3 (by decide) (ht _ k_fl_C_30) (fun _ h9 => h9) rfl d_C_hasRoomFor_25 ?_
    refine x_calli (va_runV (As := []) (rest := []) ⟨hx, hb, hml, hown, ht⟩ (c_A_size l G A w2 6 kE_ le E.length gE_ x5_) (cwV 0 ht (TW_V k_ml_C_78 k_im_A_size k_se_A_size k_in_A k_code_A_size) rfl rfl rfl hv_A_size ⟨Nat.le_of_ble_eq_true rfl, Nat.le_of_ble_eq_true rfl⟩) ⟨x_blind, va_recv hK hP rfl li_e_, x_pre hE hA hS hP hD⟩ rfl rfl hl.1 rfl (lv_room (Nat.le_of_ble_eq_true rfl)) d_C_hasRoomFor_28 ⟨Nat.le_of_ble_eq_true rfl, Nat.le_of_ble_eq_true rfl⟩) hS (fun r6 w5 H locs q4 hP hD hS => ?_)
    obtain ⟨rfl, rfl⟩ := q4
    refine lv_bipush (v := (nI 60)) hx hb d_C_hasRoomFor_31 (by decide) ?_
    refine x_ge hx hb E.length 60 rfl rfl (by omega) (by omega) (tgt := 70) d_C_hasRoomFor_33 (by decide) (fun c7 => ?_) (fun c7 => ?_)
    · refine lv_iconst (v := (nI 0)) hx hb d_C_hasRoomFor_70 (by decide) ?_
      exact x_zret hx hb hr hlocks hS hP hD (Nat.le_of_ble_eq_true rfl) (Nat.le_of_ble_eq_true rfl) d_C_hasRoomFor_71 rfl (⟨Or.inr ⟨rfl, fun q => by rw [rr] at q; omega⟩, hR1, kk1⟩)
    · refine lv_aload_n hx hb d_C_hasRoomFor_36 rfl (lv_at hl 2 rfl) ?_
      refine va_get (D := xD G) (ci := 0) (C := R_C) (T := F_C) (N := 10) hx hb ht in_C hown hK hP 0 x1_ rfl 2 (by decide) (ht _ k_fl_C_26) (fun _ h9 => h9) rfl d_C_hasRoomFor_37 ?_
      refine x_calli (va_runV (As := []) (rest := []) ⟨hx, hb, hml, hown, ht⟩ (c_A_size l G A w2 5 kV_ lv V.length gV_ x4_) (cwV 0 ht (TW_V k_ml_C_78 k_im_A_size k_se_A_size k_in_A k_code_A_size) rfl rfl rfl hv_A_size ⟨Nat.le_of_ble_eq_true rfl, Nat.le_of_ble_eq_true rfl⟩) ⟨x_blind, va_recv hK hP rfl li_v_, x_pre hE hA hS hP hD⟩ rfl rfl hl.1 rfl (lv_room (Nat.le_of_ble_eq_true rfl)) d_C_hasRoomFor_40 ⟨Nat.le_of_ble_eq_true rfl, Nat.le_of_ble_eq_true rfl⟩) hS (fun r10 w9 H locs q8 hP hD hS => ?_)
      obtain ⟨rfl, rfl⟩ := q8
      refine lv_iload hx hb d_C_hasRoomFor_43 (lv_at hl 0 rfl) ?_
      refine lv_iadd hx hb d_C_hasRoomFor_45 ?_
      refine x_top (nI (V.length + mm)) (nI_add _ _) ?_
      refine lv_bipush (v := (nI 60)) hx hb d_C_hasRoomFor_46 (by decide) ?_
      refine x_gt hx hb (V.length + mm) 60 rfl rfl (by omega) (by omega) (tgt := 70) d_C_hasRoomFor_48 (by decide) (fun c11 => ?_) (fun c11 => ?_)
      · refine lv_iconst (v := (nI 0)) hx hb d_C_hasRoomFor_70 (by decide) ?_
        exact x_zret hx hb hr hlocks hS hP hD (Nat.le_of_ble_eq_true rfl) (Nat.le_of_ble_eq_true rfl) d_C_hasRoomFor_71 rfl (⟨Or.inr ⟨rfl, fun q => by rw [rr] at q; omega⟩, hR1, kk1⟩)
      · refine lv_aload_n hx hb d_C_hasRoomFor_51 rfl (lv_at hl 2 rfl) ?_
        refine va_get (D := xD G) (ci := 0) (C := R_C) (T := F_C) (N := 10) hx hb ht in_C hown hK hP 0 x1_ rfl 4 (by decide) (ht _ k_fl_C_33) (fun _ h9 => h9) rfl d_C_hasRoomFor_52 ?_
        refine x_calli (va_runV (As := []) (rest := []) ⟨hx, hb, hml, hown, ht⟩ (c_A_size l G A w2 7 kK_ lk K.length gK_ x6_) (cwV 0 ht (TW_V k_ml_C_78 k_im_A_size k_se_A_size k_in_A k_code_A_size) rfl rfl rfl hv_A_size ⟨Nat.le_of_ble_eq_true rfl, Nat.le_of_ble_eq_true rfl⟩) ⟨x_blind, va_recv hK hP rfl li_k_, x_pre hE hA hS hP hD⟩ rfl rfl hl.1 rfl (lv_room (Nat.le_of_ble_eq_true rfl)) d_C_hasRoomFor_55 ⟨Nat.le_of_ble_eq_true rfl, Nat.le_of_ble_eq_true rfl⟩) hS (fun r14 w13 H locs q12 hP hD hS => ?_)
        obtain ⟨rfl, rfl⟩ := q12
        refine lv_iload hx hb d_C_hasRoomFor_58 (lv_at hl 1 rfl) ?_
        refine lv_iadd hx hb d_C_hasRoomFor_60 ?_
        refine x_top (nI (K.length + nn)) (nI_add _ _) ?_
        refine lv_bipush (v := (nI 80)) hx hb d_C_hasRoomFor_61 (by decide) ?_
        refine x_gt hx hb (K.length + nn) 80 rfl rfl (by omega) (by omega) (tgt := 70) d_C_hasRoomFor_63 (by decide) (fun c15 => ?_) (fun c15 => ?_)
        · refine lv_iconst (v := (nI 0)) hx hb d_C_hasRoomFor_70 (by decide) ?_
          exact x_zret hx hb hr hlocks hS hP hD (Nat.le_of_ble_eq_true rfl) (Nat.le_of_ble_eq_true rfl) d_C_hasRoomFor_71 rfl (⟨Or.inr ⟨rfl, fun q => by rw [rr] at q; omega⟩, hR1, kk1⟩)
        · refine lv_iconst (v := (nI 1)) hx hb d_C_hasRoomFor_66 (by decide) ?_
          refine lv_goto (tgt := 71) hx hb d_C_hasRoomFor_67 (by decide) ?_
          exact x_zret hx hb hr hlocks hS hP hD (Nat.le_of_ble_eq_true rfl) (Nat.le_of_ble_eq_true rfl) d_C_hasRoomFor_71 rfl (⟨Or.inl ⟨rfl, rr.mpr ⟨c7, c11, c15⟩⟩, hR1, kk1⟩)
  refine x_ne hx hb kd 1 rfl rfl (by omega) (by omega) (tgt := 20) d_C_hasRoomFor_13 (by decide) (fun c16 => ?_) (fun c16 => ?_)
  · refine lv_iload hx hb d_C_hasRoomFor_20 (lv_at hl 0 rfl) ?_
    have e8 : nn = mm := by rw [em, if_neg c16]
    refine lv_istore (lv' := [(6, .int (nI nn)), (5, .int (nI nn)), (0, .ref o), (1, .int (nI kd)), (2, .int x1), (3, .int x2), (4, .int x3)]) hx hb d_C_hasRoomFor_22 hl (by decide) rfl (fun ls hl => ?_)
    exact go ls (by rw [← e8]; exact hl)
  · have e8 : mm = 1 := by rw [em, if_pos c16]
    refine lv_iconst (v := (nI 1)) hx hb d_C_hasRoomFor_16 (by decide) ?_
    refine lv_goto (tgt := 22) hx hb d_C_hasRoomFor_17 (by decide) ?_
    refine lv_istore (lv' := [(6, .int (nI 1)), (5, .int (nI nn)), (0, .ref o), (1, .int (nI kd)), (2, .int x1), (3, .int x2), (4, .int x3)]) hx hb d_C_hasRoomFor_22 hl (by decide) rfl (fun ls hl => ?_)
    exact go ls (by rw [e8]; exact hl)
