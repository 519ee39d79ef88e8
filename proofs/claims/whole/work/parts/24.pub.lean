def clw (n : Nat) (x0 x1 x2 : Int32) : Prop := (x0 = nI 0 ∧ md n x1 ∧ md n x2) ∨ (x0 = nI 1 ∧ md n x1)
def clK (E : List EE) (x0 x1 x2 : Int32) : KK := if x0 = nI 0 then (cmb 1 (sE E (ix x1)) 96 (sE E (ix x2)), unit 0, zr) else (sE E (ix x1), cmb 1 (unit 0) 96 (sE E (ix x1)), zr)

set_option maxHeartbeats 4000000 in
set_option maxRecDepth 100000 in
theorem c_claim (l : Launch) (G : xG) (A : Nat → Prop) (ws : va_W) (hst : l.stackTraces = false) (o z u lv le lk : Nat) (V : List VV) (E : List EE) (K : List KK) (inp : Nat) (w d : Nat → Nat) (wV wC : Nat) (hR : CCs G ws o z u lv le lk V E K inp w d wV wC) (hI : okI V E K inp wV wC) (x0 x1 x2 : Int32) : vx_Met l y_C_claim (cw_C_claim :: TW) { frames := 13, cells := 40, slots := 2000, locals := 338 } (va_Pc [.ref o, .int x0, .int x1, .int x2] (x_P G A ws)) (qI G A (fun r w9 => r = nI K.length ∧ clw E.length x0 x1 x2 ∧ K.length < 80 ∧ CCs G w9 o z u lv le lk V E (K ++ [clK E x0 x1 x2]) inp w d wV wC)) (qX G A (fun Ex w9 => CCs G w9 o z u lv le lk V E K inp w d wV wC ∧ ((Ex = "java/lang/IllegalArgumentException" ∧ ¬ clw E.length x0 x1 x2) ∨ (Ex = "java/lang/IllegalStateException" ∧ clw E.length x0 x1 x2 ∧ ¬ K.length < 80)))) 40 2000 A := by
  refine vx_ofW (cc := b_C_claim) (maxL := 4) (ret := (some .int)) (by decide) rfl ?_
  intro p e s m args below meth c s₁ B hml hno hv
  obtain ⟨rfl, hE, hA, hP, hD⟩ := hv
  have hx := B.exec
  have hb := B.bytes
  have hr := B.returns
  have ht : ∀ w ∈ TW, w.before _ s = true := fun w h => atoms_spec (ws := cw_C_claim :: TW) B.pre w (List.mem_cons_of_mem _ h)
  have hown : s.vm.findClass R_C = some m.cls := findClass_of_methodNamed B.named
  have hlocks := B.notSynchronized
  have hK := hE.1
  have hS : va_S A s.heap s.heap [] := va_S.rf
  have hl := lv_entry ([.ref o, .int x0, .int x1, .int x2]) (n := 4) (Nat.le_of_ble_eq_true rfl)
  rw [lg_entry_eq]
  generalize (lg_sl ([.ref o, .int x0, .int x1, .int x2]) ++ List.replicate (4 - (lg_sl ([.ref o, .int x0, .int x1, .int x2])).length) Slot.unset).toArray = ls at hl ⊢
  have hl : lv_has ls 4 [(0, .ref o), (1, .int x0), (2, .int x1), (3, .int x2)] := hl
  obtain ⟨i1, i2, i3, i4, i5, i6, i7, i8, i9⟩ := id hI
  obtain ⟨wa_, da_, kV_, kE_, kK_, gV_, gE_, gK_, hX_⟩ := id hR
  obtain ⟨x1_, x2_, x3_, x4_, x5_, x6_, x7_, x8_, x9_, x10_, x11_, x12_, x13_⟩ := id hX_
  obtain ⟨mo_v_, ae_v_, li_v_, -⟩ := id x4_
  obtain ⟨mo_e_, ae_e_, li_e_, -⟩ := id x5_
  obtain ⟨mo_k_, ae_k_, li_k_, -⟩ := id x6_
  have fin : ∀ (w9 : va_W) (H : Heap) (locs : List Loc), clw E.length x0 x1 x2 → K.length < 80 → CCs G w9 o z u lv le lk V E (K ++ [clK E x0 x1 x2]) inp w d wV wC → va_P (xD G) CL w9 H → va_D A w9 → va_S A s.heap H locs → W p l e (headSpec (cw_C_claim :: TW) { frames := 13, cells := 40, slots := 2000, locals := 338 }).room s m ([.ref o, .int x0, .int x1, .int x2] : List Value).toArray below meth c H locs 6 275 (vx_MQ below (qI G A (fun r w9 => r = nI K.length ∧ clw E.length x0 x1 x2 ∧ K.length < 80 ∧ CCs G w9 o z u lv le lk V E (K ++ [clK E x0 x1 x2]) inp w d wV wC)) (qX G A (fun Ex w9 => CCs G w9 o z u lv le lk V E K inp w d wV wC ∧ ((Ex = "java/lang/IllegalArgumentException" ∧ ¬ clw E.length x0 x1 x2) ∨ (Ex = "java/lang/IllegalStateException" ∧ clw E.length x0 x1 x2 ∧ ¬ K.length < 80)))) ([.ref o, .int x0, .int x1, .int x2] : List Value).toArray s 40 2000 A) (F0 m 107 ls []) := by
    intro w9 H locs hc hk hR9 hP hD hS
    obtain ⟨wa9, da9, kV9, kE9, kK9, gV9, gE9, gK9, hX9⟩ := id hR9
    have l6 := hX9.2.2.2.2.2.1
    rw [List.length_append] at l6
    have l6 : isL G w9 7 kK9 lk (K.length + 1) gK9 := l6
    obtain ⟨mo9, ae9, li9, -⟩ := id l6
    refine lv_aload_n hx hb d_C_claim_107 rfl (lv_at hl 0 rfl) ?_
    refine va_get (D := xD G) (ci := 0) (C := R_C) (T := F_C) (N := 10) hx hb ht in_C hown hK hP 0 hX9.1 rfl 4 (by decide) (ht _ k_fl_C_33) (fun _ h9 => h9) rfl d_C_claim_108 ?_
    refine x_calli (va_runV (As := []) (rest := []) ⟨hx, hb, hml, hown, ht⟩ (c_A_size l G A w9 7 kK9 lk (K.length + 1) gK9 l6) (cwV 0 ht (TW_V k_ml_C_78 k_im_A_size k_se_A_size k_in_A k_code_A_size) rfl rfl rfl hv_A_size ⟨Nat.le_of_ble_eq_true rfl, Nat.le_of_ble_eq_true rfl⟩) ⟨x_blind, va_recv hK hP rfl li9, x_pre hE hA hS hP hD⟩ rfl rfl hl.1 rfl (lv_room (Nat.le_of_ble_eq_true rfl)) d_C_claim_111 ⟨Nat.le_of_ble_eq_true rfl, Nat.le_of_ble_eq_true rfl⟩) hS (fun r3 w2 H locs q1 hP hD hS => ?_)
    obtain ⟨rfl, rfl⟩ := q1
    refine lv_iconst (v := (nI 1)) hx hb d_C_claim_114 (by decide) ?_
    refine lv_isub hx hb d_C_claim_115 ?_
    refine x_top (nI ((K.length + 1) - 1)) (pk_sub (by omega)) ?_
    refine vx_ret ?_
    exact x_iret hx hb hr hlocks hS hP hD (Nat.le_of_ble_eq_true rfl) (Nat.le_of_ble_eq_true rfl) d_C_claim_116 (⟨by rw [Nat.add_sub_cancel], hc, hk, hR9⟩)
  by_cases z0 : x0 = nI 0
  · subst z0
    refine lv_iload_n hx hb d_C_claim_0 rfl (lv_at hl 1 rfl) ?_
    refine x_if_eq hx hb 0 rfl (by omega) (tgt := 9) d_C_claim_1 (by decide) (fun c4 => ?_) (fun c4 => ?_)
    · refine lv_aload_n hx hb d_C_claim_9 rfl (lv_at hl 0 rfl) ?_
      refine lv_iload_n hx hb d_C_claim_10 rfl (lv_at hl 2 rfl) ?_
      refine x_calli (va_runV (As := [.int x1]) (rest := []) ⟨hx, hb, hml, hown, ht⟩ (c_isMade l G A ws o z u lv le lk V E K inp w d wV wC hR i3 x1) (cwV 1 ht (TW_V k_ml_C_82 k_im_C_isMade k_se_C_isMade k_in_C k_code_C_isMade) rfl rfl rfl hv_C_isMade ⟨Nat.le_of_ble_eq_true rfl, Nat.le_of_ble_eq_true rfl⟩) ⟨x_blind, va_recv hK hP rfl x1_, x_pre hE hA hS hP hD⟩ rfl rfl hl.1 rfl (lv_room (Nat.le_of_ble_eq_true rfl)) d_C_claim_11 ⟨Nat.le_of_ble_eq_true rfl, Nat.le_of_ble_eq_true rfl⟩) hS (fun r7 w6 H locs q5 hP hD hS => ?_)
      obtain ⟨rfl, ⟨rfl, hm⟩ | ⟨rfl, hm⟩⟩ := q5
      · refine x_if_eq hx hb 1 rfl (by omega) (tgt := 29) d_C_claim_14 (by decide) (fun c8 => ?_) (fun c8 => ?_)
        · exact False.elim (by omega)
        · obtain ⟨ja, ga, rfl⟩ := id hm
          refine lv_iload_n hx hb d_C_claim_17 rfl (lv_at hl 1 rfl) ?_
          refine x_if_ne hx hb 0 rfl (by omega) (tgt := 37) d_C_claim_18 (by decide) (fun c9 => ?_) (fun c9 => ?_)
          · exact False.elim (by omega)
          · refine lv_aload_n hx hb d_C_claim_21 rfl (lv_at hl 0 rfl) ?_
            refine lv_iload_n hx hb d_C_claim_22 rfl (lv_at hl 3 rfl) ?_
            refine x_calli (va_runV (As := [.int x2]) (rest := []) ⟨hx, hb, hml, hown, ht⟩ (c_isMade l G A ws o z u lv le lk V E K inp w d wV wC hR i3 x2) (cwV 1 ht (TW_V k_ml_C_82 k_im_C_isMade k_se_C_isMade k_in_C k_code_C_isMade) rfl rfl rfl hv_C_isMade ⟨Nat.le_of_ble_eq_true rfl, Nat.le_of_ble_eq_true rfl⟩) ⟨x_blind, va_recv hK hP rfl x1_, x_pre hE hA hS hP hD⟩ rfl rfl hl.1 rfl (lv_room (Nat.le_of_ble_eq_true rfl)) d_C_claim_23 ⟨Nat.le_of_ble_eq_true rfl, Nat.le_of_ble_eq_true rfl⟩) hS (fun r12 w11 H locs q10 hP hD hS => ?_)
            obtain ⟨rfl, ⟨rfl, hm2⟩ | ⟨rfl, hm2⟩⟩ := q10
            · refine x_if_ne hx hb 1 rfl (by omega) (tgt := 37) d_C_claim_26 (by decide) (fun c13 => ?_) (fun c13 => ?_)
              · obtain ⟨jb, gb, rfl⟩ := id hm2
                refine lv_aload_n hx hb d_C_claim_37 rfl (lv_at hl 0 rfl) ?_
                refine va_get (D := xD G) (ci := 0) (C := R_C) (T := F_C) (N := 10) hx hb ht in_C hown hK hP 0 x1_ rfl 4 (by decide) (ht _ k_fl_C_33) (fun _ h9 => h9) rfl d_C_claim_38 ?_
                refine x_calli (va_runV (As := []) (rest := []) ⟨hx, hb, hml, hown, ht⟩ (c_A_size l G A ws 7 kK_ lk K.length gK_ x6_) (cwV 0 ht (TW_V k_ml_C_78 k_im_A_size k_se_A_size k_in_A k_code_A_size) rfl rfl rfl hv_A_size ⟨Nat.le_of_ble_eq_true rfl, Nat.le_of_ble_eq_true rfl⟩) ⟨x_blind, va_recv hK hP rfl li_k_, x_pre hE hA hS hP hD⟩ rfl rfl hl.1 rfl (lv_room (Nat.le_of_ble_eq_true rfl)) d_C_claim_41 ⟨Nat.le_of_ble_eq_true rfl, Nat.le_of_ble_eq_true rfl⟩) hS (fun r16 w15 H locs q14 hP hD hS => ?_)
                obtain ⟨rfl, rfl⟩ := q14
                refine lv_bipush (v := (nI 80)) hx hb d_C_claim_44 (by decide) ?_
                refine x_lt hx hb K.length 80 rfl rfl (by omega) (by omega) (tgt := 57) d_C_claim_46 (by decide) (fun c17 => ?_) (fun c17 => ?_)
                · refine lv_iload_n hx hb d_C_claim_57 rfl (lv_at hl 1 rfl) ?_
                  refine x_if_ne hx hb 0 rfl (by omega) (tgt := 82) d_C_claim_58 (by decide) (fun c18 => ?_) (fun c18 => ?_)
                  · exact False.elim (by omega)
                  · refine lv_aload_n hx hb d_C_claim_61 rfl (lv_at hl 0 rfl) ?_
                    refine lv_aload_n hx hb d_C_claim_62 rfl (lv_at hl 0 rfl) ?_
                    refine lv_iload_n hx hb d_C_claim_63 rfl (lv_at hl 2 rfl) ?_
                    refine lv_iload_n hx hb d_C_claim_64 rfl (lv_at hl 3 rfl) ?_
                    refine x_callr (va_runV (As := [.int (nI ja), .int (nI jb)]) (rest := [.ref o]) ⟨hx, hb, hml, hown, ht⟩ (c_diff l G A ws o z u lv le lk V E K inp w d wV wC hR i3 ja jb ga gb) (cwV 2 ht (TW_V k_ml_C_86 k_im_C_difference k_se_C_difference k_in_C k_code_C_difference) rfl rfl rfl hv_C_difference ⟨Nat.le_of_ble_eq_true rfl, Nat.le_of_ble_eq_true rfl⟩) ⟨x_blind, va_recv hK hP rfl x1_, x_pre hE hA hS hP hD⟩ rfl rfl hl.1 rfl (lv_room (Nat.le_of_ble_eq_true rfl)) d_C_claim_65 ⟨Nat.le_of_ble_eq_true rfl, Nat.le_of_ble_eq_true rfl⟩) hS (fun r21 w20 H locs q19 hP hD hS => ?_)
                    refine W.widen (k := 2) (n := 61) (Nat.le_of_ble_eq_true rfl) (Nat.le_of_ble_eq_true rfl) ?_
                    obtain ⟨hR1, kk1, iS⟩ := mkS_CC hR q19 (fun j _ => cmb_lt j)
                    obtain ⟨wa1, da1, ho1⟩ := CCs.o hR1
                    refine lv_aload_n hx hb d_C_claim_68 rfl (lv_at hl 0 rfl) ?_
                    refine va_get (D := xD G) (ci := 0) (C := R_C) (T := F_C) (N := 10) hx hb ht in_C hown hK hP 0 ho1 rfl 1 (by decide) (ht _ k_fl_C_20) (fun _ h9 => h9) rfl d_C_claim_69 ?_
                    refine lv_aload_n hx hb d_C_claim_72 rfl (lv_at hl 0 rfl) ?_
                    refine va_get (D := xD G) (ci := 0) (C := R_C) (T := F_C) (N := 10) hx hb ht in_C hown hK hP 0 ho1 rfl 0 (by decide) (ht _ k_fl_C_12) (fun _ h9 => h9) rfl d_C_claim_73 ?_
                    refine x_callv (va_runV (As := [.ref r21, .ref u, .ref z]) (rest := []) ⟨hx, hb, hml, hown, ht⟩ (c_addK l G A w20 o z u lv le lk V E K inp w d wV wC hR1 (by omega) r21 u z _ _ _ iS hR1.z.2 hR1.z.1) (cwV 3 ht (TW_V k_ml_C_90 k_im_C_addConstraint k_se_C_addConstraint k_in_C k_code_C_addConstraint) rfl rfl rfl hv_C_addConstraint ⟨Nat.le_of_ble_eq_true rfl, Nat.le_of_ble_eq_true rfl⟩) ⟨x_blind, va_recv hK hP rfl ho1, x_pre hE hA hS hP hD⟩ rfl rfl hl.1 rfl (lv_room (Nat.le_of_ble_eq_true rfl)) d_C_claim_76 ⟨Nat.le_of_ble_eq_true rfl, Nat.le_of_ble_eq_true rfl⟩) hS (fun w23 H locs q22 hP hD hS => ?_)
                    refine W.widen (k := 4) (n := 214) (Nat.le_of_ble_eq_true rfl) (Nat.le_of_ble_eq_true rfl) ?_
                    obtain ⟨hR2, kk2⟩ := q22
                    refine lv_goto (tgt := 107) hx hb d_C_claim_79 (by decide) ?_
                    refine W.widen (k := 6) (n := 275) (Nat.le_of_ble_eq_true rfl) (Nat.le_of_ble_eq_true rfl) ?_
                    exact fin w23 H locs (Or.inl ⟨rfl, hm, hm2⟩) c17 (by rw [show clK E (nI 0) (nI ja) (nI jb) = (cmb 1 (sE E ja) 96 (sE E jb), unit 0, zr) by simp [clK, ix_nI (show ja < 2 ^ 31 by omega), ix_nI (show jb < 2 ^ 31 by omega)]]; exact hR2) hP hD hS
                · exact vx_throw0 (own := R_C) (cls := "java/lang/IllegalStateException") (names := ["java/lang/RuntimeException", "java/lang/Exception"]) hx hb hst hown (by decide) (by decide) (ht _ k_cl_C_62) (ht _ k_in_IllegalStateException) (x_hat ht hE.2.2.2.2.2.2.2 at_ISE) hg_ISE hE.2.2.2.2.2.1 hE.2.2.2.2.2.2.1 hS (hl.1.trans hml.symm) d_C_claim_49 d_C_claim_52 d_C_claim_53 d_C_claim_56 (fun x h => (hno x h).elim) (Nat.le_of_ble_eq_true rfl) (Nat.le_of_ble_eq_true rfl) (Nat.le_of_ble_eq_true rfl) (Nat.le_of_ble_eq_true rfl) hlocks (x_thrown hS hP hD (⟨hR, Or.inr ⟨rfl, Or.inl ⟨rfl, hm, hm2⟩, by omega⟩⟩)) hS.2.2 (Nat.le_of_ble_eq_true rfl) (Nat.le_of_ble_eq_true rfl)
              · exact False.elim (by omega)
            · refine x_if_ne hx hb 0 rfl (by omega) (tgt := 37) d_C_claim_26 (by decide) (fun c24 => ?_) (fun c24 => ?_)
              · exact False.elim (by omega)
              · exact vx_throw0 (own := R_C) (cls := "java/lang/IllegalArgumentException") (names := ["java/lang/RuntimeException", "java/lang/Exception"]) hx hb hst hown (by decide) (by decide) (ht _ k_cl_C_56) (ht _ k_in_IllegalArgumentException) (x_hat ht hE.2.2.2.2.2.2.2 at_IAE) hg_IAE hE.2.2.2.2.2.1 hE.2.2.2.2.2.2.1 hS (hl.1.trans hml.symm) d_C_claim_29 d_C_claim_32 d_C_claim_33 d_C_claim_36 (fun x h => (hno x h).elim) (Nat.le_of_ble_eq_true rfl) (Nat.le_of_ble_eq_true rfl) (Nat.le_of_ble_eq_true rfl) (Nat.le_of_ble_eq_true rfl) hlocks (x_thrown hS hP hD (⟨hR, Or.inl ⟨rfl, fun q => by rcases q with ⟨-, -, q⟩ | ⟨q, -⟩; exact hm2 q; exact absurd q (by decide)⟩⟩)) hS.2.2 (Nat.le_of_ble_eq_true rfl) (Nat.le_of_ble_eq_true rfl)
      · refine x_if_eq hx hb 0 rfl (by omega) (tgt := 29) d_C_claim_14 (by decide) (fun c25 => ?_) (fun c25 => ?_)
        · exact vx_throw0 (own := R_C) (cls := "java/lang/IllegalArgumentException") (names := ["java/lang/RuntimeException", "java/lang/Exception"]) hx hb hst hown (by decide) (by decide) (ht _ k_cl_C_56) (ht _ k_in_IllegalArgumentException) (x_hat ht hE.2.2.2.2.2.2.2 at_IAE) hg_IAE hE.2.2.2.2.2.1 hE.2.2.2.2.2.2.1 hS (hl.1.trans hml.symm) d_C_claim_29 d_C_claim_32 d_C_claim_33 d_C_claim_36 (fun x h => (hno x h).elim) (Nat.le_of_ble_eq_true rfl) (Nat.le_of_ble_eq_true rfl) (Nat.le_of_ble_eq_true rfl) (Nat.le_of_ble_eq_true rfl) hlocks (x_thrown hS hP hD (⟨hR, Or.inl ⟨rfl, fun q => by rcases q with ⟨-, q, -⟩ | ⟨q, -⟩; exact hm q; exact absurd q (by decide)⟩⟩)) hS.2.2 (Nat.le_of_ble_eq_true rfl) (Nat.le_of_ble_eq_true rfl)
        · exact False.elim (by omega)
    · exact False.elim (by omega)
  · by_cases z1 : x0 = nI 1
    · subst z1
      refine lv_iload_n hx hb d_C_claim_0 rfl (lv_at hl 1 rfl) ?_
      refine x_if_eq hx hb 1 rfl (by omega) (tgt := 9) d_C_claim_1 (by decide) (fun c26 => ?_) (fun c26 => ?_)
      · exact False.elim (by omega)
      · refine lv_iload_n hx hb d_C_claim_4 rfl (lv_at hl 1 rfl) ?_
        refine lv_iconst (v := (nI 1)) hx hb d_C_claim_5 (by decide) ?_
        refine x_ne hx hb 1 1 rfl rfl (by omega) (by omega) (tgt := 29) d_C_claim_6 (by decide) (fun c27 => ?_) (fun c27 => ?_)
        · exact False.elim (by omega)
        · refine lv_aload_n hx hb d_C_claim_9 rfl (lv_at hl 0 rfl) ?_
          refine lv_iload_n hx hb d_C_claim_10 rfl (lv_at hl 2 rfl) ?_
          refine x_calli (va_runV (As := [.int x1]) (rest := []) ⟨hx, hb, hml, hown, ht⟩ (c_isMade l G A ws o z u lv le lk V E K inp w d wV wC hR i3 x1) (cwV 1 ht (TW_V k_ml_C_82 k_im_C_isMade k_se_C_isMade k_in_C k_code_C_isMade) rfl rfl rfl hv_C_isMade ⟨Nat.le_of_ble_eq_true rfl, Nat.le_of_ble_eq_true rfl⟩) ⟨x_blind, va_recv hK hP rfl x1_, x_pre hE hA hS hP hD⟩ rfl rfl hl.1 rfl (lv_room (Nat.le_of_ble_eq_true rfl)) d_C_claim_11 ⟨Nat.le_of_ble_eq_true rfl, Nat.le_of_ble_eq_true rfl⟩) hS (fun r30 w29 H locs q28 hP hD hS => ?_)
          obtain ⟨rfl, ⟨rfl, hm⟩ | ⟨rfl, hm⟩⟩ := q28
          · refine x_if_eq hx hb 1 rfl (by omega) (tgt := 29) d_C_claim_14 (by decide) (fun c31 => ?_) (fun c31 => ?_)
            · exact False.elim (by omega)
            · obtain ⟨ja, ga, rfl⟩ := id hm
              refine lv_iload_n hx hb d_C_claim_17 rfl (lv_at hl 1 rfl) ?_
              refine x_if_ne hx hb 1 rfl (by omega) (tgt := 37) d_C_claim_18 (by decide) (fun c32 => ?_) (fun c32 => ?_)
              · refine lv_aload_n hx hb d_C_claim_37 rfl (lv_at hl 0 rfl) ?_
                refine va_get (D := xD G) (ci := 0) (C := R_C) (T := F_C) (N := 10) hx hb ht in_C hown hK hP 0 x1_ rfl 4 (by decide) (ht _ k_fl_C_33) (fun _ h9 => h9) rfl d_C_claim_38 ?_
                refine x_calli (va_runV (As := []) (rest := []) ⟨hx, hb, hml, hown, ht⟩ (c_A_size l G A ws 7 kK_ lk K.length gK_ x6_) (cwV 0 ht (TW_V k_ml_C_78 k_im_A_size k_se_A_size k_in_A k_code_A_size) rfl rfl rfl hv_A_size ⟨Nat.le_of_ble_eq_true rfl, Nat.le_of_ble_eq_true rfl⟩) ⟨x_blind, va_recv hK hP rfl li_k_, x_pre hE hA hS hP hD⟩ rfl rfl hl.1 rfl (lv_room (Nat.le_of_ble_eq_true rfl)) d_C_claim_41 ⟨Nat.le_of_ble_eq_true rfl, Nat.le_of_ble_eq_true rfl⟩) hS (fun r35 w34 H locs q33 hP hD hS => ?_)
                obtain ⟨rfl, rfl⟩ := q33
                refine lv_bipush (v := (nI 80)) hx hb d_C_claim_44 (by decide) ?_
                refine x_lt hx hb K.length 80 rfl rfl (by omega) (by omega) (tgt := 57) d_C_claim_46 (by decide) (fun c36 => ?_) (fun c36 => ?_)
                · refine lv_iload_n hx hb d_C_claim_57 rfl (lv_at hl 1 rfl) ?_
                  refine x_if_ne hx hb 1 rfl (by omega) (tgt := 82) d_C_claim_58 (by decide) (fun c37 => ?_) (fun c37 => ?_)
                  · refine lv_aload_n hx hb d_C_claim_82 rfl (lv_at hl 0 rfl) ?_
                    refine lv_aload_n hx hb d_C_claim_83 rfl (lv_at hl 0 rfl) ?_
                    refine lv_iload_n hx hb d_C_claim_84 rfl (lv_at hl 2 rfl) ?_
                    refine x_callr (va_runV (As := [.int (nI ja)]) (rest := [.ref o]) ⟨hx, hb, hml, hown, ht⟩ (c_sumOf l G A ws o z u lv le lk V E K inp w d wV wC hR i3 ja ga) (cwV 1 ht (TW_V k_ml_C_94 k_im_C_sumOf k_se_C_sumOf k_in_C k_code_C_sumOf) rfl rfl rfl hv_C_sumOf ⟨Nat.le_of_ble_eq_true rfl, Nat.le_of_ble_eq_true rfl⟩) ⟨x_blind, va_recv hK hP rfl x1_, x_pre hE hA hS hP hD⟩ rfl rfl hl.1 rfl (lv_room (Nat.le_of_ble_eq_true rfl)) d_C_claim_85 ⟨Nat.le_of_ble_eq_true rfl, Nat.le_of_ble_eq_true rfl⟩) hS (fun r40 w39 H locs q38 hP hD hS => ?_)
                    obtain ⟨rfl, s1⟩ := q38
                    have iu := hR.z.2
                    obtain ⟨kU, jU, cU, fU, pU, qU, nU, oU, eU, bU⟩ := id iu
                    refine lv_aload_n hx hb d_C_claim_88 rfl (lv_at hl 0 rfl) ?_
                    refine va_get (D := xD G) (ci := 0) (C := R_C) (T := F_C) (N := 10) hx hb ht in_C hown hK hP 0 x1_ rfl 1 (by decide) (ht _ k_fl_C_20) (fun _ h9 => h9) rfl d_C_claim_89 ?_
                    refine lv_aload_n hx hb d_C_claim_92 rfl (lv_at hl 0 rfl) ?_
                    refine lv_iload_n hx hb d_C_claim_93 rfl (lv_at hl 2 rfl) ?_
                    refine x_callr (va_runV (As := [.int (nI ja)]) (rest := [.ref u, .ref r40, .ref o]) ⟨hx, hb, hml, hown, ht⟩ (c_sumOf l G A ws o z u lv le lk V E K inp w d wV wC hR i3 ja ga) (cwV 1 ht (TW_V k_ml_C_94 k_im_C_sumOf k_se_C_sumOf k_in_C k_code_C_sumOf) rfl rfl rfl hv_C_sumOf ⟨Nat.le_of_ble_eq_true rfl, Nat.le_of_ble_eq_true rfl⟩) ⟨x_blind, va_recv hK hP rfl x1_, x_pre hE hA hS hP hD⟩ rfl rfl hl.1 rfl (lv_room (Nat.le_of_ble_eq_true rfl)) d_C_claim_94 ⟨Nat.le_of_ble_eq_true rfl, Nat.le_of_ble_eq_true rfl⟩) hS (fun r43 w42 H locs q41 hP hD hS => ?_)
                    obtain ⟨rfl, s2⟩ := q41
                    refine x_callr (va_runV (As := [.ref r43]) (rest := [.ref r40, .ref o]) ⟨hx, hb, hml, hown, ht⟩ (c_S_minus l G A ws u r43 _ _ iu s2) (cwV 1 ht (TW_V k_ml_C_97 k_im_S_minus k_se_S_minus k_in_S k_code_S_minus) rfl rfl rfl hv_S_minus ⟨Nat.le_of_ble_eq_true rfl, Nat.le_of_ble_eq_true rfl⟩) ⟨x_blind, va_recv hK hP rfl pU, x_pre hE hA hS hP hD⟩ rfl rfl hl.1 rfl (lv_room (Nat.le_of_ble_eq_true rfl)) d_C_claim_97 ⟨Nat.le_of_ble_eq_true rfl, Nat.le_of_ble_eq_true rfl⟩) hS (fun r46 w45 H locs q44 hP hD hS => ?_)
                    refine W.widen (k := 2) (n := 61) (Nat.le_of_ble_eq_true rfl) (Nat.le_of_ble_eq_true rfl) ?_
                    obtain ⟨hR1, kk1, iS⟩ := mkS_CC hR q44 (fun j _ => cmb_lt j)
                    obtain ⟨wa1, da1, ho1⟩ := CCs.o hR1
                    refine lv_aload_n hx hb d_C_claim_100 rfl (lv_at hl 0 rfl) ?_
                    refine va_get (D := xD G) (ci := 0) (C := R_C) (T := F_C) (N := 10) hx hb ht in_C hown hK hP 0 ho1 rfl 0 (by decide) (ht _ k_fl_C_12) (fun _ h9 => h9) rfl d_C_claim_101 ?_
                    refine x_callv (va_runV (As := [.ref r40, .ref r46, .ref z]) (rest := []) ⟨hx, hb, hml, hown, ht⟩ (c_addK l G A w45 o z u lv le lk V E K inp w d wV wC hR1 (by omega) r40 r46 z _ _ _ (s1.kp kk1) iS hR1.z.1) (cwV 3 ht (TW_V k_ml_C_90 k_im_C_addConstraint k_se_C_addConstraint k_in_C k_code_C_addConstraint) rfl rfl rfl hv_C_addConstraint ⟨Nat.le_of_ble_eq_true rfl, Nat.le_of_ble_eq_true rfl⟩) ⟨x_blind, va_recv hK hP rfl ho1, x_pre hE hA hS hP hD⟩ rfl rfl hl.1 rfl (lv_room (Nat.le_of_ble_eq_true rfl)) d_C_claim_104 ⟨Nat.le_of_ble_eq_true rfl, Nat.le_of_ble_eq_true rfl⟩) hS (fun w48 H locs q47 hP hD hS => ?_)
                    refine W.widen (k := 4) (n := 214) (Nat.le_of_ble_eq_true rfl) (Nat.le_of_ble_eq_true rfl) ?_
                    obtain ⟨hR2, kk2⟩ := q47
                    refine W.widen (k := 6) (n := 275) (Nat.le_of_ble_eq_true rfl) (Nat.le_of_ble_eq_true rfl) ?_
                    exact fin w48 H locs (Or.inr ⟨rfl, hm⟩) c36 (by rw [show clK E (nI 1) (nI ja) x2 = (sE E ja, cmb 1 (unit 0) 96 (sE E ja), zr) by simp [clK, ix_nI (show ja < 2 ^ 31 by omega), show ¬ nI 1 = nI 0 by decide]]; exact hR2) hP hD hS
                  · exact False.elim (by omega)
                · exact vx_throw0 (own := R_C) (cls := "java/lang/IllegalStateException") (names := ["java/lang/RuntimeException", "java/lang/Exception"]) hx hb hst hown (by decide) (by decide) (ht _ k_cl_C_62) (ht _ k_in_IllegalStateException) (x_hat ht hE.2.2.2.2.2.2.2 at_ISE) hg_ISE hE.2.2.2.2.2.1 hE.2.2.2.2.2.2.1 hS (hl.1.trans hml.symm) d_C_claim_49 d_C_claim_52 d_C_claim_53 d_C_claim_56 (fun x h => (hno x h).elim) (Nat.le_of_ble_eq_true rfl) (Nat.le_of_ble_eq_true rfl) (Nat.le_of_ble_eq_true rfl) (Nat.le_of_ble_eq_true rfl) hlocks (x_thrown hS hP hD (⟨hR, Or.inr ⟨rfl, Or.inr ⟨rfl, hm⟩, by omega⟩⟩)) hS.2.2 (Nat.le_of_ble_eq_true rfl) (Nat.le_of_ble_eq_true rfl)
              · exact False.elim (by omega)
          · refine x_if_eq hx hb 0 rfl (by omega) (tgt := 29) d_C_claim_14 (by decide) (fun c49 => ?_) (fun c49 => ?_)
            · exact vx_throw0 (own := R_C) (cls := "java/lang/IllegalArgumentException") (names := ["java/lang/RuntimeException", "java/lang/Exception"]) hx hb hst hown (by decide) (by decide) (ht _ k_cl_C_56) (ht _ k_in_IllegalArgumentException) (x_hat ht hE.2.2.2.2.2.2.2 at_IAE) hg_IAE hE.2.2.2.2.2.1 hE.2.2.2.2.2.2.1 hS (hl.1.trans hml.symm) d_C_claim_29 d_C_claim_32 d_C_claim_33 d_C_claim_36 (fun x h => (hno x h).elim) (Nat.le_of_ble_eq_true rfl) (Nat.le_of_ble_eq_true rfl) (Nat.le_of_ble_eq_true rfl) (Nat.le_of_ble_eq_true rfl) hlocks (x_thrown hS hP hD (⟨hR, Or.inl ⟨rfl, fun q => by rcases q with ⟨q, -⟩ | ⟨-, q⟩; exact absurd q (by decide); exact hm q⟩⟩)) hS.2.2 (Nat.le_of_ble_eq_true rfl) (Nat.le_of_ble_eq_true rfl)
            · exact False.elim (by omega)
    · refine lv_iload_n hx hb d_C_claim_0 rfl (lv_at hl 1 rfl) ?_
      refine lv_if_eq (tgt := 9) hx hb d_C_claim_1 (by decide) (fun c50 => ?_) (fun c50 => ?_)
      · exact absurd (c50.trans n_0) z0
      · refine lv_iload_n hx hb d_C_claim_4 rfl (lv_at hl 1 rfl) ?_
        refine lv_iconst (v := (nI 1)) hx hb d_C_claim_5 (by decide) ?_
        refine lv_icmp_ne (tgt := 29) hx hb d_C_claim_6 (by decide) (fun c51 => ?_) (fun c51 => ?_)
        · exact vx_throw0 (own := R_C) (cls := "java/lang/IllegalArgumentException") (names := ["java/lang/RuntimeException", "java/lang/Exception"]) hx hb hst hown (by decide) (by decide) (ht _ k_cl_C_56) (ht _ k_in_IllegalArgumentException) (x_hat ht hE.2.2.2.2.2.2.2 at_IAE) hg_IAE hE.2.2.2.2.2.1 hE.2.2.2.2.2.2.1 hS (hl.1.trans hml.symm) d_C_claim_29 d_C_claim_32 d_C_claim_33 d_C_claim_36 (fun x h => (hno x h).elim) (Nat.le_of_ble_eq_true rfl) (Nat.le_of_ble_eq_true rfl) (Nat.le_of_ble_eq_true rfl) (Nat.le_of_ble_eq_true rfl) hlocks (x_thrown hS hP hD (⟨hR, Or.inl ⟨rfl, fun q => by rcases q with ⟨q, -⟩ | ⟨q, -⟩; exact z0 q; exact z1 q⟩⟩)) hS.2.2 (Nat.le_of_ble_eq_true rfl) (Nat.le_of_ble_eq_true rfl)
        · exact absurd c51 z1

set_option maxHeartbeats 4000000 in
set_option maxRecDepth 100000 in
theorem c_terms (l : Launch) (G : xG) (A : Nat → Prop) (ws : va_W) (hst : l.stackTraces = false) (o z u lv le lk : Nat) (V : List VV) (E : List EE) (K : List KK) (inp : Nat) (w d : Nat → Nat) (wV wC : Nat) (hR : CCs G ws o z u lv le lk V E K inp w d wV wC) (hI : okI V E K inp wV wC) (x1 : Int32) : vx_Met l y_C_terms (cw_C_terms :: TW) { frames := 13, cells := 40, slots := 2000, locals := 338 } (va_Pc [.ref o, .int x1] (x_P G A ws)) (qI G A (fun r w9 => CCs G w9 o z u lv le lk V E K inp w d wV wC ∧ ∃ j, j < E.length ∧ x1 = nI j ∧ r = nI (nz (sE E j) 60))) (qX G A (fun Ex w9 => CCs G w9 o z u lv le lk V E K inp w d wV wC ∧ Ex = "java/util/NoSuchElementException" ∧ ¬ md E.length x1)) 40 2000 A := by
  refine vx_ofW (cc := b_C_terms) (maxL := 2) (ret := (some .int)) (by decide) rfl ?_
  intro p e s m args below meth c s₁ B hml hno hv
  obtain ⟨rfl, hE, hA, hP, hD⟩ := hv
  have hx := B.exec
  have hb := B.bytes
  have hr := B.returns
  have ht : ∀ w ∈ TW, w.before _ s = true := fun w h => atoms_spec (ws := cw_C_terms :: TW) B.pre w (List.mem_cons_of_mem _ h)
  have hown : s.vm.findClass R_C = some m.cls := findClass_of_methodNamed B.named
  have hlocks := B.notSynchronized
  have hK := hE.1
  have hS : va_S A s.heap s.heap [] := va_S.rf
  have hl := lv_entry ([.ref o, .int x1]) (n := 2) (Nat.le_of_ble_eq_true rfl)
  rw [lg_entry_eq]
  generalize (lg_sl ([.ref o, .int x1]) ++ List.replicate (2 - (lg_sl ([.ref o, .int x1])).length) Slot.unset).toArray = ls at hl ⊢
  have hl : lv_has ls 2 [(0, .ref o), (1, .int x1)] := hl
  obtain ⟨i1, i2, i3, i4, i5, i6, i7, i8, i9⟩ := id hI
  obtain ⟨wa0, da0, ho0⟩ := CCs.o hR
  refine lv_aload_n hx hb d_C_terms_0 rfl (lv_at hl 0 rfl) ?_
  refine lv_iload_n hx hb d_C_terms_1 rfl (lv_at hl 1 rfl) ?_
  refine x_calli (va_runV (As := [.int x1]) (rest := []) ⟨hx, hb, hml, hown, ht⟩ (c_isMade l G A ws o z u lv le lk V E K inp w d wV wC hR i3 x1) (cwV 1 ht (TW_V k_ml_C_82 k_im_C_isMade k_se_C_isMade k_in_C k_code_C_isMade) rfl rfl rfl hv_C_isMade ⟨Nat.le_of_ble_eq_true rfl, Nat.le_of_ble_eq_true rfl⟩) ⟨x_blind, va_recv hK hP rfl ho0, x_pre hE hA hS hP hD⟩ rfl rfl hl.1 rfl (lv_room (Nat.le_of_ble_eq_true rfl)) d_C_terms_2 ⟨Nat.le_of_ble_eq_true rfl, Nat.le_of_ble_eq_true rfl⟩) hS (fun r3 w2 H locs q1 hP hD hS => ?_)
  obtain ⟨rfl, ⟨rfl, hm⟩ | ⟨rfl, hm⟩⟩ := q1
  · refine x_if_ne hx hb 1 rfl (by omega) (tgt := 16) d_C_terms_5 (by decide) (fun c4 => ?_) (fun c4 => ?_)
    · obtain ⟨ja, ga, rfl⟩ := id hm
      refine lv_aload_n hx hb d_C_terms_16 rfl (lv_at hl 0 rfl) ?_
      refine lv_iload_n hx hb d_C_terms_17 rfl (lv_at hl 1 rfl) ?_
      refine x_callr (va_runV (As := [.int (nI ja)]) (rest := []) ⟨hx, hb, hml, hown, ht⟩ (c_sumOf l G A ws o z u lv le lk V E K inp w d wV wC hR i3 ja ga) (cwV 1 ht (TW_V k_ml_C_94 k_im_C_sumOf k_se_C_sumOf k_in_C k_code_C_sumOf) rfl rfl rfl hv_C_sumOf ⟨Nat.le_of_ble_eq_true rfl, Nat.le_of_ble_eq_true rfl⟩) ⟨x_blind, va_recv hK hP rfl ho0, x_pre hE hA hS hP hD⟩ rfl rfl hl.1 rfl (lv_room (Nat.le_of_ble_eq_true rfl)) d_C_terms_18 ⟨Nat.le_of_ble_eq_true rfl, Nat.le_of_ble_eq_true rfl⟩) hS (fun r7 w6 H locs q5 hP hD hS => ?_)
      obtain ⟨rfl, s1⟩ := q5
      obtain ⟨kA, jA, cA, fA, pA, qA, nA, oA, eA, bA⟩ := id s1
      refine x_calli (va_runV (As := []) (rest := []) ⟨hx, hb, hml, hown, ht⟩ (c_S_terms l G A ws r7 _ s1) (cwV 0 ht (TW_V k_ml_C_166 k_im_S_howManyTerms k_se_S_howManyTerms k_in_S k_code_S_howManyTerms) rfl rfl rfl hv_S_howManyTerms ⟨Nat.le_of_ble_eq_true rfl, Nat.le_of_ble_eq_true rfl⟩) ⟨x_blind, va_recv hK hP rfl pA, x_pre hE hA hS hP hD⟩ rfl rfl hl.1 rfl (lv_room (Nat.le_of_ble_eq_true rfl)) d_C_terms_21 ⟨Nat.le_of_ble_eq_true rfl, Nat.le_of_ble_eq_true rfl⟩) hS (fun r10 w9 H locs q8 hP hD hS => ?_)
      obtain ⟨rfl, rfl⟩ := q8
      refine vx_ret ?_
      exact x_iret hx hb hr hlocks hS hP hD (Nat.le_of_ble_eq_true rfl) (Nat.le_of_ble_eq_true rfl) d_C_terms_24 (⟨hR, ja, ga, rfl, rfl⟩)
    · exact False.elim (by omega)
  · refine x_if_ne hx hb 0 rfl (by omega) (tgt := 16) d_C_terms_5 (by decide) (fun c11 => ?_) (fun c11 => ?_)
    · exact False.elim (by omega)
    · exact vx_throw0 (own := R_C) (cls := "java/util/NoSuchElementException") (names := ["java/lang/RuntimeException", "java/lang/Exception"]) hx hb hst hown (by decide) (by decide) (ht _ k_cl_C_101) (ht _ k_in_NoSuchElementException) (x_hat ht hE.2.2.2.2.2.2.2 at_NSE) hg_NSE hE.2.2.2.2.2.1 hE.2.2.2.2.2.2.1 hS (hl.1.trans hml.symm) d_C_terms_8 d_C_terms_11 d_C_terms_12 d_C_terms_15 (fun x h => (hno x h).elim) (Nat.le_of_ble_eq_true rfl) (Nat.le_of_ble_eq_true rfl) (Nat.le_of_ble_eq_true rfl) (Nat.le_of_ble_eq_true rfl) hlocks (x_thrown hS hP hD (⟨hR, rfl, hm⟩)) hS.2.2 (Nat.le_of_ble_eq_true rfl) (Nat.le_of_ble_eq_true rfl)

set_option maxHeartbeats 4000000 in
set_option maxRecDepth 100000 in
theorem c_brokenP (l : Launch) (G : xG) (A : Nat → Prop) (ws : va_W) (hst : l.stackTraces = false) (o z u lv le lk : Nat) (V : List VV) (E : List EE) (K : List KK) (inp : Nat) (w d : Nat → Nat) (wV wC : Nat) (hR : CCs G ws o z u lv le lk V E K inp w d wV wC) (hI : okI V E K inp wV wC) : vx_Met l y_C_broken (cw_C_broken :: TW) { frames := 13, cells := 40, slots := 2000, locals := 338 } (va_Pc [.ref o] (x_P G A ws)) (qI G A (fun r w9 => CCs G w9 o z u lv le lk V E K inp w d wV wC ∧ 0 < wV ∧ r = nI (brk K w wC))) (qX G A (fun Ex w9 => CCs G w9 o z u lv le lk V E K inp w d wV wC ∧ Ex = "java/lang/IllegalStateException" ∧ wV = 0)) 40 2000 A := by
  refine vx_ofW (cc := b_C_broken) (maxL := 1) (ret := (some .int)) (by decide) rfl ?_
  intro p e s m args below meth c s₁ B hml hno hv
  obtain ⟨rfl, hE, hA, hP, hD⟩ := hv
  have hx := B.exec
  have hb := B.bytes
  have hr := B.returns
  have ht : ∀ w ∈ TW, w.before _ s = true := fun w h => atoms_spec (ws := cw_C_broken :: TW) B.pre w (List.mem_cons_of_mem _ h)
  have hown : s.vm.findClass R_C = some m.cls := findClass_of_methodNamed B.named
  have hlocks := B.notSynchronized
  have hK := hE.1
  have hS : va_S A s.heap s.heap [] := va_S.rf
  have hl := lv_entry ([.ref o]) (n := 1) (Nat.le_of_ble_eq_true rfl)
  rw [lg_entry_eq]
  generalize (lg_sl ([.ref o]) ++ List.replicate (1 - (lg_sl ([.ref o])).length) Slot.unset).toArray = ls at hl ⊢
  have hl : lv_has ls 1 [(0, .ref o)] := hl
  obtain ⟨i1, i2, i3, i4, i5, i6, i7, i8, i9⟩ := id hI
  obtain ⟨wa0, da0, ho0⟩ := CCs.o hR
  refine lv_aload_n hx hb d_C_broken_0 rfl (lv_at hl 0 rfl) ?_
  refine x_calli (va_runV (As := []) (rest := []) ⟨hx, hb, hml, hown, ht⟩ (c_hasW l G A ws o z u lv le lk V E K inp w d wV wC hR (by omega)) (cwV 0 ht (TW_V k_ml_C_141 k_im_C_hasWitness k_se_C_hasWitness k_in_C k_code_C_hasWitness) rfl rfl rfl hv_C_hasWitness ⟨Nat.le_of_ble_eq_true rfl, Nat.le_of_ble_eq_true rfl⟩) ⟨x_blind, va_recv hK hP rfl ho0, x_pre hE hA hS hP hD⟩ rfl rfl hl.1 rfl (lv_room (Nat.le_of_ble_eq_true rfl)) d_C_broken_1 ⟨Nat.le_of_ble_eq_true rfl, Nat.le_of_ble_eq_true rfl⟩) hS (fun r3 w2 H locs q1 hP hD hS => ?_)
  obtain ⟨rfl, ⟨rfl, hm⟩ | ⟨rfl, hm⟩⟩ := q1
  · refine x_if_ne hx hb 1 rfl (by omega) (tgt := 15) d_C_broken_4 (by decide) (fun c4 => ?_) (fun c4 => ?_)
    · refine lv_aload_n hx hb d_C_broken_15 rfl (lv_at hl 0 rfl) ?_
      refine x_calli (va_runV (As := []) (rest := []) ⟨hx, hb, hml, hown, ht⟩ (c_broken l G A ws o z u lv le lk V E K inp w d wV wC hR i4 i7) (cwV 0 ht (TW_V k_ml_C_138 k_im_C_howManyBroken k_se_C_howManyBroken k_in_C k_code_C_howManyBroken) rfl rfl rfl hv_C_howManyBroken ⟨Nat.le_of_ble_eq_true rfl, Nat.le_of_ble_eq_true rfl⟩) ⟨x_blind, va_recv hK hP rfl ho0, x_pre hE hA hS hP hD⟩ rfl rfl hl.1 rfl (lv_room (Nat.le_of_ble_eq_true rfl)) d_C_broken_16 ⟨Nat.le_of_ble_eq_true rfl, Nat.le_of_ble_eq_true rfl⟩) hS (fun r7 w6 H locs q5 hP hD hS => ?_)
      obtain ⟨rfl, rfl⟩ := q5
      refine vx_ret ?_
      exact x_iret hx hb hr hlocks hS hP hD (Nat.le_of_ble_eq_true rfl) (Nat.le_of_ble_eq_true rfl) d_C_broken_19 (⟨hR, hm, rfl⟩)
    · exact False.elim (by omega)
  · refine x_if_ne hx hb 0 rfl (by omega) (tgt := 15) d_C_broken_4 (by decide) (fun c8 => ?_) (fun c8 => ?_)
    · exact False.elim (by omega)
    · exact vx_throw0 (own := R_C) (cls := "java/lang/IllegalStateException") (names := ["java/lang/RuntimeException", "java/lang/Exception"]) hx hb hst hown (by decide) (by decide) (ht _ k_cl_C_62) (ht _ k_in_IllegalStateException) (x_hat ht hE.2.2.2.2.2.2.2 at_ISE) hg_ISE hE.2.2.2.2.2.1 hE.2.2.2.2.2.2.1 hS (hl.1.trans hml.symm) d_C_broken_7 d_C_broken_10 d_C_broken_11 d_C_broken_14 (fun x h => (hno x h).elim) (Nat.le_of_ble_eq_true rfl) (Nat.le_of_ble_eq_true rfl) (Nat.le_of_ble_eq_true rfl) (Nat.le_of_ble_eq_true rfl) hlocks (x_thrown hS hP hD (⟨hR, rfl, hm⟩)) hS.2.2 (Nat.le_of_ble_eq_true rfl) (Nat.le_of_ble_eq_true rfl)

set_option maxHeartbeats 4000000 in
set_option maxRecDepth 100000 in
theorem c_valueP (l : Launch) (G : xG) (A : Nat → Prop) (ws : va_W) (hst : l.stackTraces = false) (o z u lv le lk : Nat) (V : List VV) (E : List EE) (K : List KK) (inp : Nat) (w d : Nat → Nat) (wV wC : Nat) (hR : CCs G ws o z u lv le lk V E K inp w d wV wC) (hI : okI V E K inp wV wC) (x1 : Int32) : vx_Met l y_C_value (cw_C_value :: TW) { frames := 13, cells := 40, slots := 2000, locals := 338 } (va_Pc [.ref o, .int x1] (x_P G A ws)) (qI G A (fun r w9 => CCs G w9 o z u lv le lk V E K inp w d wV wC ∧ ∃ j, j < E.length ∧ x1 = nI j ∧ 0 < wV ∧ lastV (sE E j) 59 < wV ∧ r = nI (vl (sE E j) w))) (qX G A (fun Ex w9 => CCs G w9 o z u lv le lk V E K inp w d wV wC ∧ ((Ex = "java/util/NoSuchElementException" ∧ ¬ md E.length x1) ∨ (Ex = "java/lang/IllegalStateException" ∧ ∃ j, j < E.length ∧ x1 = nI j ∧ ¬ (0 < wV ∧ lastV (sE E j) 59 < wV))))) 40 2000 A := by
  refine vx_ofW (cc := b_C_value) (maxL := 3) (ret := (some .int)) (by decide) rfl ?_
  intro p e s m args below meth c s₁ B hml hno hv
  obtain ⟨rfl, hE, hA, hP, hD⟩ := hv
  have hx := B.exec
  have hb := B.bytes
  have hr := B.returns
  have ht : ∀ w ∈ TW, w.before _ s = true := fun w h => atoms_spec (ws := cw_C_value :: TW) B.pre w (List.mem_cons_of_mem _ h)
  have hown : s.vm.findClass R_C = some m.cls := findClass_of_methodNamed B.named
  have hlocks := B.notSynchronized
  have hK := hE.1
  have hS : va_S A s.heap s.heap [] := va_S.rf
  have hl := lv_entry ([.ref o, .int x1]) (n := 3) (Nat.le_of_ble_eq_true rfl)
  rw [lg_entry_eq]
  generalize (lg_sl ([.ref o, .int x1]) ++ List.replicate (3 - (lg_sl ([.ref o, .int x1])).length) Slot.unset).toArray = ls at hl ⊢
  have hl : lv_has ls 3 [(0, .ref o), (1, .int x1)] := hl
  obtain ⟨i1, i2, i3, i4, i5, i6, i7, i8, i9⟩ := id hI
  obtain ⟨wa_, da_, kV_, kE_, kK_, gV_, gE_, gK_, hX_⟩ := id hR
  obtain ⟨x1_, x2_, x3_, x4_, x5_, x6_, x7_, x8_, x9_, x10_, x11_, x12_, x13_⟩ := id hX_
  obtain ⟨mo_v_, ae_v_, li_v_, -⟩ := id x4_
  obtain ⟨mo_e_, ae_e_, li_e_, -⟩ := id x5_
  obtain ⟨mo_k_, ae_k_, li_k_, -⟩ := id x6_
  obtain ⟨kw_, kd_, hw_, hd_, y0_, y1_, y2_, y3_, y4_, y5_, y6_⟩ := id x12_
  have iw : isW G ws wa_ w := ⟨kw_, hw_, y1_, y3_, y4_⟩
  refine lv_aload_n hx hb d_C_value_0 rfl (lv_at hl 0 rfl) ?_
  refine lv_iload_n hx hb d_C_value_1 rfl (lv_at hl 1 rfl) ?_
  refine x_calli (va_runV (As := [.int x1]) (rest := []) ⟨hx, hb, hml, hown, ht⟩ (c_isMade l G A ws o z u lv le lk V E K inp w d wV wC hR i3 x1) (cwV 1 ht (TW_V k_ml_C_82 k_im_C_isMade k_se_C_isMade k_in_C k_code_C_isMade) rfl rfl rfl hv_C_isMade ⟨Nat.le_of_ble_eq_true rfl, Nat.le_of_ble_eq_true rfl⟩) ⟨x_blind, va_recv hK hP rfl x1_, x_pre hE hA hS hP hD⟩ rfl rfl hl.1 rfl (lv_room (Nat.le_of_ble_eq_true rfl)) d_C_value_2 ⟨Nat.le_of_ble_eq_true rfl, Nat.le_of_ble_eq_true rfl⟩) hS (fun r3 w2 H locs q1 hP hD hS => ?_)
  obtain ⟨rfl, ⟨rfl, hm⟩ | ⟨rfl, hm⟩⟩ := q1
  · refine x_if_ne hx hb 1 rfl (by omega) (tgt := 16) d_C_value_5 (by decide) (fun c4 => ?_) (fun c4 => ?_)
    · obtain ⟨ja, ga, rfl⟩ := id hm
      refine lv_aload_n hx hb d_C_value_16 rfl (lv_at hl 0 rfl) ?_
      refine lv_iload_n hx hb d_C_value_17 rfl (lv_at hl 1 rfl) ?_
      refine x_callr (va_runV (As := [.int (nI ja)]) (rest := []) ⟨hx, hb, hml, hown, ht⟩ (c_sumOf l G A ws o z u lv le lk V E K inp w d wV wC hR i3 ja ga) (cwV 1 ht (TW_V k_ml_C_94 k_im_C_sumOf k_se_C_sumOf k_in_C k_code_C_sumOf) rfl rfl rfl hv_C_sumOf ⟨Nat.le_of_ble_eq_true rfl, Nat.le_of_ble_eq_true rfl⟩) ⟨x_blind, va_recv hK hP rfl x1_, x_pre hE hA hS hP hD⟩ rfl rfl hl.1 rfl (lv_room (Nat.le_of_ble_eq_true rfl)) d_C_value_18 ⟨Nat.le_of_ble_eq_true rfl, Nat.le_of_ble_eq_true rfl⟩) hS (fun r7 w6 H locs q5 hP hD hS => ?_)
      obtain ⟨rfl, s1⟩ := q5
      obtain ⟨kA, jA, cA, fA, pA, qA, nA, oA, eA, bA⟩ := id s1
      have lv9 := lastV_le (sE E ja) 59
      refine lv_astore_n (lv' := [(2, .ref r7), (0, .ref o), (1, .int (nI ja))]) hx hb d_C_value_21 rfl hl (by decide) rfl (fun ls hl => ?_)
      refine lv_aload_n hx hb d_C_value_22 rfl (lv_at hl 1 rfl) ?_
      refine x_calli (va_runV (As := []) (rest := []) ⟨hx, hb, hml, hown, ht⟩ (c_hasW l G A ws o z u lv le lk V E K inp w d wV wC hR (by omega)) (cwV 0 ht (TW_V k_ml_C_141 k_im_C_hasWitness k_se_C_hasWitness k_in_C k_code_C_hasWitness) rfl rfl rfl hv_C_hasWitness ⟨Nat.le_of_ble_eq_true rfl, Nat.le_of_ble_eq_true rfl⟩) ⟨x_blind, va_recv hK hP rfl x1_, x_pre hE hA hS hP hD⟩ rfl rfl hl.1 rfl (lv_room (Nat.le_of_ble_eq_true rfl)) d_C_value_23 ⟨Nat.le_of_ble_eq_true rfl, Nat.le_of_ble_eq_true rfl⟩) hS (fun r10 w9 H locs q8 hP hD hS => ?_)
      obtain ⟨rfl, ⟨rfl, hm3⟩ | ⟨rfl, hm3⟩⟩ := q8
      · refine x_if_eq hx hb 1 rfl (by omega) (tgt := 40) d_C_value_26 (by decide) (fun c11 => ?_) (fun c11 => ?_)
        · exact False.elim (by omega)
        · refine lv_aload_n hx hb d_C_value_29 rfl (lv_at hl 0 rfl) ?_
          refine x_calli (va_runV (As := []) (rest := []) ⟨hx, hb, hml, hown, ht⟩ (c_S_last l G A ws r7 _ s1) (cwV 0 ht (TW_V k_ml_C_144 k_im_S_lastVariable k_se_S_lastVariable k_in_S k_code_S_lastVariable) rfl rfl rfl hv_S_lastVariable ⟨Nat.le_of_ble_eq_true rfl, Nat.le_of_ble_eq_true rfl⟩) ⟨x_blind, va_recv hK hP rfl pA, x_pre hE hA hS hP hD⟩ rfl rfl hl.1 rfl (lv_room (Nat.le_of_ble_eq_true rfl)) d_C_value_30 ⟨Nat.le_of_ble_eq_true rfl, Nat.le_of_ble_eq_true rfl⟩) hS (fun r14 w13 H locs q12 hP hD hS => ?_)
          obtain ⟨rfl, rfl⟩ := q12
          refine lv_aload_n hx hb d_C_value_33 rfl (lv_at hl 1 rfl) ?_
          refine va_get (D := xD G) (ci := 0) (C := R_C) (T := F_C) (N := 10) hx hb ht in_C hown hK hP 0 x1_ rfl 8 (by decide) (ht _ k_fl_C_132) (fun _ h9 => h9) rfl d_C_value_34 ?_
          refine x_lt hx hb (lastV (sE E ja) 59) wV rfl rfl (by omega) (by omega) (tgt := 48) d_C_value_37 (by decide) (fun c15 => ?_) (fun c15 => ?_)
          · refine lv_aload_n hx hb d_C_value_48 rfl (lv_at hl 0 rfl) ?_
            refine lv_aload_n hx hb d_C_value_49 rfl (lv_at hl 1 rfl) ?_
            refine va_get (D := xD G) (ci := 0) (C := R_C) (T := F_C) (N := 10) hx hb ht in_C hown hK hP 0 x1_ rfl 6 (by decide) (ht _ k_fl_C_36) (fun _ h9 => h9) rfl d_C_value_50 ?_
            refine x_calli (va_runV (As := [.ref wa_]) (rest := []) ⟨hx, hb, hml, hown, ht⟩ (c_S_value l G A ws r7 wa_ _ w s1 iw) (cwV 1 ht (TW_V k_ml_C_147 k_im_S_valueFor k_se_S_valueFor k_in_S k_code_S_valueFor) rfl rfl rfl hv_S_valueFor ⟨Nat.le_of_ble_eq_true rfl, Nat.le_of_ble_eq_true rfl⟩) ⟨x_blind, va_recv hK hP rfl pA, x_pre hE hA hS hP hD⟩ rfl rfl hl.1 rfl (lv_room (Nat.le_of_ble_eq_true rfl)) d_C_value_53 ⟨Nat.le_of_ble_eq_true rfl, Nat.le_of_ble_eq_true rfl⟩) hS (fun r18 w17 H locs q16 hP hD hS => ?_)
            obtain ⟨rfl, rfl⟩ := q16
            refine vx_ret ?_
            exact x_iret hx hb hr hlocks hS hP hD (Nat.le_of_ble_eq_true rfl) (Nat.le_of_ble_eq_true rfl) d_C_value_56 (⟨hR, ja, ga, rfl, hm3, c15, rfl⟩)
          · exact vx_throw0 (own := R_C) (cls := "java/lang/IllegalStateException") (names := ["java/lang/RuntimeException", "java/lang/Exception"]) hx hb hst hown (by decide) (by decide) (ht _ k_cl_C_62) (ht _ k_in_IllegalStateException) (x_hat ht hE.2.2.2.2.2.2.2 at_ISE) hg_ISE hE.2.2.2.2.2.1 hE.2.2.2.2.2.2.1 hS (hl.1.trans hml.symm) d_C_value_40 d_C_value_43 d_C_value_44 d_C_value_47 (fun x h => (hno x h).elim) (Nat.le_of_ble_eq_true rfl) (Nat.le_of_ble_eq_true rfl) (Nat.le_of_ble_eq_true rfl) (Nat.le_of_ble_eq_true rfl) hlocks (x_thrown hS hP hD (⟨hR, Or.inr ⟨rfl, ja, ga, rfl, by omega⟩⟩)) hS.2.2 (Nat.le_of_ble_eq_true rfl) (Nat.le_of_ble_eq_true rfl)
      · refine x_if_eq hx hb 0 rfl (by omega) (tgt := 40) d_C_value_26 (by decide) (fun c19 => ?_) (fun c19 => ?_)
        · exact vx_throw0 (own := R_C) (cls := "java/lang/IllegalStateException") (names := ["java/lang/RuntimeException", "java/lang/Exception"]) hx hb hst hown (by decide) (by decide) (ht _ k_cl_C_62) (ht _ k_in_IllegalStateException) (x_hat ht hE.2.2.2.2.2.2.2 at_ISE) hg_ISE hE.2.2.2.2.2.1 hE.2.2.2.2.2.2.1 hS (hl.1.trans hml.symm) d_C_value_40 d_C_value_43 d_C_value_44 d_C_value_47 (fun x h => (hno x h).elim) (Nat.le_of_ble_eq_true rfl) (Nat.le_of_ble_eq_true rfl) (Nat.le_of_ble_eq_true rfl) (Nat.le_of_ble_eq_true rfl) hlocks (x_thrown hS hP hD (⟨hR, Or.inr ⟨rfl, ja, ga, rfl, by omega⟩⟩)) hS.2.2 (Nat.le_of_ble_eq_true rfl) (Nat.le_of_ble_eq_true rfl)
        · exact False.elim (by omega)
    · exact False.elim (by omega)
  · refine x_if_ne hx hb 0 rfl (by omega) (tgt := 16) d_C_value_5 (by decide) (fun c20 => ?_) (fun c20 => ?_)
    · exact False.elim (by omega)
    · exact vx_throw0 (own := R_C) (cls := "java/util/NoSuchElementException") (names := ["java/lang/RuntimeException", "java/lang/Exception"]) hx hb hst hown (by decide) (by decide) (ht _ k_cl_C_101) (ht _ k_in_NoSuchElementException) (x_hat ht hE.2.2.2.2.2.2.2 at_NSE) hg_NSE hE.2.2.2.2.2.1 hE.2.2.2.2.2.2.1 hS (hl.1.trans hml.symm) d_C_value_8 d_C_value_11 d_C_value_12 d_C_value_15 (fun x h => (hno x h).elim) (Nat.le_of_ble_eq_true rfl) (Nat.le_of_ble_eq_true rfl) (Nat.le_of_ble_eq_true rfl) (Nat.le_of_ble_eq_true rfl) hlocks (x_thrown hS hP hD (⟨hR, Or.inl ⟨rfl, hm⟩⟩)) hS.2.2 (Nat.le_of_ble_eq_true rfl) (Nat.le_of_ble_eq_true rfl)

theorem rng_lo {x : Int32} {n : Nat} (hn : n < 2 ^ 31) (h1 : ¬ x < nI 1) (h2 : x < nI n) : ∃ j, 1 ≤ j ∧ j < n ∧ x = nI j := by
  rw [Int32.lt_iff_toInt_lt, nI_toInt (by decide)] at h1
  rw [Int32.lt_iff_toInt_lt, nI_toInt hn] at h2
  refine ⟨x.toInt.toNat, by omega, by omega, ?_⟩
  apply Int32.toInt_inj.mp
  rw [nI_toInt (by omega)]
  omega

set_option maxHeartbeats 4000000 in
set_option maxRecDepth 100000 in
theorem c_tamper (l : Launch) (G : xG) (A : Nat → Prop) (ws : va_W) (hst : l.stackTraces = false) (o z u lv le lk : Nat) (V : List VV) (E : List EE) (K : List KK) (inp : Nat) (w d : Nat → Nat) (wV wC : Nat) (hR : CCs G ws o z u lv le lk V E K inp w d wV wC) (hI : okI V E K inp wV wC) (x1 x2 : Int32) : vx_Met l y_C_tamper (cw_C_tamper :: TW) { frames := 13, cells := 40, slots := 2000, locals := 338 } (va_Pc [.ref o, .int x1, .int x2] (x_P G A ws)) (qI G A (fun r w9 => 0 < wV ∧ ∃ j, 1 ≤ j ∧ j < wV ∧ x1 = nI j ∧ r = nI (w j) ∧ CCs G w9 o z u lv le lk V E K inp (va_up w j (rm x2)) d wV wC)) (qX G A (fun Ex w9 => CCs G w9 o z u lv le lk V E K inp w d wV wC ∧ ((Ex = "java/lang/IllegalStateException" ∧ wV = 0) ∨ (Ex = "java/lang/IllegalArgumentException" ∧ 0 < wV ∧ ¬ ∃ j, 1 ≤ j ∧ j < wV ∧ x1 = nI j)))) 40 2000 A := by
  refine vx_ofW (cc := b_C_tamper) (maxL := 4) (ret := (some .int)) (by decide) rfl ?_
  intro p e s m args below meth c s₁ B hml hno hv
  obtain ⟨rfl, hE, hA, hP, hD⟩ := hv
  have hx := B.exec
  have hb := B.bytes
  have hr := B.returns
  have ht : ∀ w ∈ TW, w.before _ s = true := fun w h => atoms_spec (ws := cw_C_tamper :: TW) B.pre w (List.mem_cons_of_mem _ h)
  have hown : s.vm.findClass R_C = some m.cls := findClass_of_methodNamed B.named
  have hlocks := B.notSynchronized
  have hK := hE.1
  have hS : va_S A s.heap s.heap [] := va_S.rf
  have hl := lv_entry ([.ref o, .int x1, .int x2]) (n := 4) (Nat.le_of_ble_eq_true rfl)
  rw [lg_entry_eq]
  generalize (lg_sl ([.ref o, .int x1, .int x2]) ++ List.replicate (4 - (lg_sl ([.ref o, .int x1, .int x2])).length) Slot.unset).toArray = ls at hl ⊢
  have hl : lv_has ls 4 [(0, .ref o), (1, .int x1), (2, .int x2)] := hl
  obtain ⟨i1, i2, i3, i4, i5, i6, i7, i8, i9⟩ := id hI
  obtain ⟨wa_, da_, kV_, kE_, kK_, gV_, gE_, gK_, hX_⟩ := id hR
  obtain ⟨x1_, x2_, x3_, x4_, x5_, x6_, x7_, x8_, x9_, x10_, x11_, x12_, x13_⟩ := id hX_
  obtain ⟨mo_v_, ae_v_, li_v_, -⟩ := id x4_
  obtain ⟨mo_e_, ae_e_, li_e_, -⟩ := id x5_
  obtain ⟨mo_k_, ae_k_, li_k_, -⟩ := id x6_
  obtain ⟨kw_, kd_, hw_, hd_, y0_, y1_, y2_, y3_, y4_, y5_, y6_⟩ := id x12_
  refine lv_aload_n hx hb d_C_tamper_0 rfl (lv_at hl 0 rfl) ?_
  refine x_calli (va_runV (As := []) (rest := []) ⟨hx, hb, hml, hown, ht⟩ (c_hasW l G A ws o z u lv le lk V E K inp w d wV wC hR (by omega)) (cwV 0 ht (TW_V k_ml_C_141 k_im_C_hasWitness k_se_C_hasWitness k_in_C k_code_C_hasWitness) rfl rfl rfl hv_C_hasWitness ⟨Nat.le_of_ble_eq_true rfl, Nat.le_of_ble_eq_true rfl⟩) ⟨x_blind, va_recv hK hP rfl x1_, x_pre hE hA hS hP hD⟩ rfl rfl hl.1 rfl (lv_room (Nat.le_of_ble_eq_true rfl)) d_C_tamper_1 ⟨Nat.le_of_ble_eq_true rfl, Nat.le_of_ble_eq_true rfl⟩) hS (fun r3 w2 H locs q1 hP hD hS => ?_)
  obtain ⟨rfl, ⟨rfl, hm⟩ | ⟨rfl, hm⟩⟩ := q1
  · refine x_if_ne hx hb 1 rfl (by omega) (tgt := 15) d_C_tamper_4 (by decide) (fun c4 => ?_) (fun c4 => ?_)
    · refine lv_iload_n hx hb d_C_tamper_15 rfl (lv_at hl 1 rfl) ?_
      refine lv_iconst (v := (nI 1)) hx hb d_C_tamper_16 (by decide) ?_
      refine lv_icmp_lt (tgt := 28) hx hb d_C_tamper_17 (by decide) (fun c5 => ?_) (fun c5 => ?_)
      · exact vx_throw0 (own := R_C) (cls := "java/lang/IllegalArgumentException") (names := ["java/lang/RuntimeException", "java/lang/Exception"]) hx hb hst hown (by decide) (by decide) (ht _ k_cl_C_56) (ht _ k_in_IllegalArgumentException) (x_hat ht hE.2.2.2.2.2.2.2 at_IAE) hg_IAE hE.2.2.2.2.2.1 hE.2.2.2.2.2.2.1 hS (hl.1.trans hml.symm) d_C_tamper_28 d_C_tamper_31 d_C_tamper_32 d_C_tamper_35 (fun x h => (hno x h).elim) (Nat.le_of_ble_eq_true rfl) (Nat.le_of_ble_eq_true rfl) (Nat.le_of_ble_eq_true rfl) (Nat.le_of_ble_eq_true rfl) hlocks (x_thrown hS hP hD (⟨hR, Or.inr ⟨rfl, hm, fun ⟨j, j1, j2, e⟩ => by rw [e] at c5; exact absurd ((nI_ltI (by omega) (by decide)).mp c5) (by omega)⟩⟩)) hS.2.2 (Nat.le_of_ble_eq_true rfl) (Nat.le_of_ble_eq_true rfl)
      · refine lv_iload_n hx hb d_C_tamper_20 rfl (lv_at hl 1 rfl) ?_
        refine lv_aload_n hx hb d_C_tamper_21 rfl (lv_at hl 0 rfl) ?_
        refine va_get (D := xD G) (ci := 0) (C := R_C) (T := F_C) (N := 10) hx hb ht in_C hown hK hP 0 x1_ rfl 8 (by decide) (ht _ k_fl_C_132) (fun _ h9 => h9) rfl d_C_tamper_22 ?_
        refine lv_icmp_lt (tgt := 36) hx hb d_C_tamper_25 (by decide) (fun c6 => ?_) (fun c6 => ?_)
        · obtain ⟨j, j1, j2, rfl⟩ := rng_lo (by omega) c5 c6
          refine lv_aload_n hx hb d_C_tamper_36 rfl (lv_at hl 0 rfl) ?_
          refine va_get (D := xD G) (ci := 0) (C := R_C) (T := F_C) (N := 10) hx hb ht in_C hown hK hP 0 x1_ rfl 6 (by decide) (ht _ k_fl_C_36) (fun _ h9 => h9) rfl d_C_tamper_37 ?_
          refine lv_iload_n hx hb d_C_tamper_40 rfl (lv_at hl 1 rfl) ?_
          refine x_iald hx hb hK hP y1_ j rfl (by omega) (by omega) d_C_tamper_41 ?_
          refine x_top (nI (w j)) (y3_ j (by omega)) ?_
          refine lv_istore_n (lv' := [(3, .int (nI (w j))), (0, .ref o), (1, .int (nI j)), (2, .int x2)]) hx hb d_C_tamper_42 rfl hl (by decide) rfl (fun ls hl => ?_)
          refine lv_aload_n hx hb d_C_tamper_43 rfl (lv_at hl 1 rfl) ?_
          refine va_get (D := xD G) (ci := 0) (C := R_C) (T := F_C) (N := 10) hx hb ht in_C hown hK hP 0 x1_ rfl 6 (by decide) (ht _ k_fl_C_36) (fun _ h9 => h9) rfl d_C_tamper_44 ?_
          refine lv_iload_n hx hb d_C_tamper_47 rfl (lv_at hl 2 rfl) ?_
          refine lv_iload_n hx hb d_C_tamper_48 rfl (lv_at hl 3 rfl) ?_
          refine x_calli (va_runS (As := [.int x2]) (rest := [.int (nI j), .ref wa_]) ⟨hx, hb, hml, hown, ht⟩ (c_remainder l G A ws x2) (va_cwS 1 ht (TW_S k_ml_C_122 k_st_C_remainder k_in_C k_code_C_remainder) rfl rfl rfl hv_C_remainder.2 ⟨Nat.le_of_ble_eq_true rfl, Nat.le_of_ble_eq_true rfl⟩) ⟨x_blind, x_pre hE hA hS hP hD⟩ rfl rfl hl.1 rfl (lv_room (Nat.le_of_ble_eq_true rfl)) d_C_tamper_49 ⟨Nat.le_of_ble_eq_true rfl, Nat.le_of_ble_eq_true rfl⟩) hS (fun r9 w8 H locs q7 hP hD hS => ?_)
          obtain ⟨rfl, rfl⟩ := q7
          refine x_iast hx hb hK hP hD hS y1_ j rfl (by omega) (by omega) d_C_tamper_52 (fun H locs hP hD hS => ?_)
          have hP : va_P (xD G) CL (ws.set kw_ (wa_, aI G 60 (upd hw_ j (nI (rm x2))))) H := hP
          have hD : va_D A (ws.set kw_ (wa_, aI G 60 (upd hw_ j (nI (rm x2))))) := hD
          obtain ⟨w10, e_w10⟩ : ∃ zz : va_W, zz = ws.set kw_ (wa_, aI G 60 (upd hw_ j (nI (rm x2)))) := ⟨_, rfl⟩
          rw [← e_w10] at hP hD
          have h11 : w10[kw_]? = some (wa_, aI G 60 (upd hw_ j (nI (rm x2)))) := by rw [e_w10]; exact w_eq y1_
          have r2 : rows2 G (ws.set kw_ (wa_, aI G 60 (upd hw_ j (nI (rm x2))))) wa_ da_ (va_up w j (rm x2)) d := ⟨kw_, kd_, upd hw_ j (nI (rm x2)), hd_, y0_, w_eq y1_, w_ne (by omega) y2_, fun i hi => by unfold upd va_up; split; rfl; exact y3_ i hi, fun i hi => by unfold va_up; split; exact rm_lt x2; exact y4_ i hi, y5_, y6_⟩
          obtain ⟨hX2, kk2⟩ := CCx.setRow hX_ (by omega) y1_ r2
          rw [← e_w10] at hX2 kk2
          refine lv_iload_n hx hb d_C_tamper_53 rfl (lv_at hl 0 rfl) ?_
          refine vx_ret ?_
          exact x_iret hx hb hr hlocks hS hP hD (Nat.le_of_ble_eq_true rfl) (Nat.le_of_ble_eq_true rfl) d_C_tamper_54 (⟨hm, j, j1, j2, rfl, rfl, ⟨_, _, _, _, _, _, _, _, hX2⟩⟩)
        · exact vx_throw0 (own := R_C) (cls := "java/lang/IllegalArgumentException") (names := ["java/lang/RuntimeException", "java/lang/Exception"]) hx hb hst hown (by decide) (by decide) (ht _ k_cl_C_56) (ht _ k_in_IllegalArgumentException) (x_hat ht hE.2.2.2.2.2.2.2 at_IAE) hg_IAE hE.2.2.2.2.2.1 hE.2.2.2.2.2.2.1 hS (hl.1.trans hml.symm) d_C_tamper_28 d_C_tamper_31 d_C_tamper_32 d_C_tamper_35 (fun x h => (hno x h).elim) (Nat.le_of_ble_eq_true rfl) (Nat.le_of_ble_eq_true rfl) (Nat.le_of_ble_eq_true rfl) (Nat.le_of_ble_eq_true rfl) hlocks (x_thrown hS hP hD (⟨hR, Or.inr ⟨rfl, hm, fun ⟨j, j1, j2, e⟩ => c6 (by rw [e]; exact (nI_ltI (by omega) (by omega)).mpr j2)⟩⟩)) hS.2.2 (Nat.le_of_ble_eq_true rfl) (Nat.le_of_ble_eq_true rfl)
    · exact False.elim (by omega)
  · refine x_if_ne hx hb 0 rfl (by omega) (tgt := 15) d_C_tamper_4 (by decide) (fun c12 => ?_) (fun c12 => ?_)
    · exact False.elim (by omega)
    · exact vx_throw0 (own := R_C) (cls := "java/lang/IllegalStateException") (names := ["java/lang/RuntimeException", "java/lang/Exception"]) hx hb hst hown (by decide) (by decide) (ht _ k_cl_C_62) (ht _ k_in_IllegalStateException) (x_hat ht hE.2.2.2.2.2.2.2 at_ISE) hg_ISE hE.2.2.2.2.2.1 hE.2.2.2.2.2.2.1 hS (hl.1.trans hml.symm) d_C_tamper_7 d_C_tamper_10 d_C_tamper_11 d_C_tamper_14 (fun x h => (hno x h).elim) (Nat.le_of_ble_eq_true rfl) (Nat.le_of_ble_eq_true rfl) (Nat.le_of_ble_eq_true rfl) (Nat.le_of_ble_eq_true rfl) hlocks (x_thrown hS hP hD (⟨hR, Or.inl ⟨rfl, hm⟩⟩)) hS.2.2 (Nat.le_of_ble_eq_true rfl) (Nat.le_of_ble_eq_true rfl)
