/-! give, solve, first, coefficient, uses, count -/
def eI (E : List EE) (i : Nat) : Nat := (E.getD i (zr, 0)).2
theorem eI_of {E : List EE} {i : Nat} {x : EE} (h : E[i]? = some x) : eI E i = x.2 := by unfold eI; rw [List.getD_eq_getElem?_getD, h]; rfl
def gv (x : VV) (v : Nat) : VV := (x.1, x.2.1, x.2.2.1, v)
theorem isS.set2 {G : xG} {ws : va_W} {a k0 ea : Nat} {f : Nat → Nat} {fs : List Value} {x : Nat × va_E} (h : isS G ws a f) (h0 : ws[k0]? = some (ea, .inr (2, fs))) : isS G (ws.set k0 x) a f := by
  obtain ⟨k, k', ca, hh, h1, h2, h3⟩ := h
  exact ⟨k, k', ca, hh, w_ne (w_dif h0 h1 (by simp)) h1, w_ne (w_dif h0 h2 (by simp)) h2, h3⟩
theorem isL.set2 {G : xG} {ws : va_W} {k0 ea kl al n : Nat} {ka : Option Nat} {g : Nat → Nat} {fs : List Value} {x : Nat × va_E} (h : isL G ws kl ka al n g) (h0 : ws[k0]? = some (ea, .inr (2, fs))) : isL G (ws.set k0 x) kl ka al n g := by
  obtain ⟨mo, ea2, q0, qd⟩ := h
  refine ⟨mo, ea2, w_ne (w_dif h0 q0 (by simp)) q0, ?_⟩
  rcases qd with h | ⟨k, cap, f, e1, e2, e3⟩
  · exact Or.inl h
  · exact Or.inr ⟨k, cap, f, e1, w_ne (w_dif h0 e2 (by simp)) e2, e3⟩
theorem CCx.setG {G : xG} {ws : va_W} {o z u lv le lk wa da : Nat} {kV kE kK : Option Nat} {gV gE gK : Nat → Nat} {V : List VV} {E : List EE} {K : List KK} {inp : Nat} {w d : Nat → Nat} {wV wC : Nat} (h : CCx G ws o z u lv le lk wa da kV kE kK gV gE gK V E K inp w d wV wC) {i k0 la ra : Nat} {x : VV} (hi : V[i]? = some x) (h0 : ws[k0]? = some (gV i, .inr (2, [.int (nI x.1), .ref la, .ref ra, .int (nI x.2.2.2)]))) (hl : isS G ws la x.2.1) (hr : isS G ws ra x.2.2.1) (g9 : Nat) :
    CCx G (ws.set k0 (gV i, .inr (2, [.int (nI x.1), .ref la, .ref ra, .int (nI g9)]))) o z u lv le lk wa da kV kE kK gV gE gK (V.set i (gv x g9)) E K inp w d wV wC := by
  obtain ⟨h1, h2, h3, h4, h5, h6, h7, h8, h9, h10, h11, h12, h13⟩ := h
  have hlt : i < V.length := (List.getElem?_eq_some_iff.mp hi).1
  have hlen : (V.set i (gv x g9)).length = V.length := List.length_set
  refine ⟨w_ne (w_dif h0 h1 (by simp)) h1, h2.set2 h0, h3.set2 h0, by rw [hlen]; exact h4.set2 h0, h5.set2 h0, h6.set2 h0, ?_, ?_, ?_, h10, by rw [hlen]; exact h11, ?_, by rw [w_setlen]; exact h13⟩
  · intro j y hy
    by_cases e : i = j
    · subst e
      rw [List.getElem?_set_self hlt] at hy
      cases hy
      exact ⟨k0, la, ra, w_eq h0, hl.set2 h0, hr.set2 h0⟩
    · rw [List.getElem?_set_ne e] at hy
      obtain ⟨k, la2, ra2, e1, e2, e3⟩ := h7 j y hy
      refine ⟨k, la2, ra2, w_ne ?_ e1, e2.set2 h0, e3.set2 h0⟩
      rintro rfl
      have := w_fn h0 e1
      exact e (h11 i j hlt (List.getElem?_eq_some_iff.mp hy).1 (congrArg Prod.fst this))
  · intro j y hy
    obtain ⟨k, sa, e1, e2⟩ := h8 j y hy
    exact ⟨k, sa, w_ne (w_dif h0 e1 (by simp)) e1, e2.set2 h0⟩
  · intro j y hy
    obtain ⟨k, xa, ya, za, e1, e2, e3, e4⟩ := h9 j y hy
    exact ⟨k, xa, ya, za, w_ne (w_dif h0 e1 (by simp)) e1, e2.set2 h0, e3.set2 h0, e4.set2 h0⟩
  · obtain ⟨kw, kd, hw, hd, e0, e1, e2, e3⟩ := h12
    exact ⟨kw, kd, hw, hd, e0, w_ne (w_dif h0 e1 (by simp)) e1, w_ne (w_dif h0 e2 (by simp)) e2, e3⟩
abbrev kS (x : KK) (s : Nat) : Nat → Nat := if s = 0 then x.1 else if s = 1 then x.2.1 else x.2.2
abbrev hasv (x : KK) (j : Nat) : Prop := x.1 j ≠ 0 ∨ x.2.1 j ≠ 0 ∨ x.2.2 j ≠ 0
def usN (K : List KK) (v : Nat) : Nat → Nat
  | 0 => 0
  | n + 1 => usN K v n + (if hasv (kAt K n) v then 1 else 0)
theorem usN_le (K : List KK) (v : Nat) : ∀ n, usN K v n ≤ n := by
  intro n
  induction n with
  | zero => exact Nat.le_refl 0
  | succ n ih => show usN K v n + _ ≤ _; split <;> omega
def cnt (k : Nat) (V : List VV) (E : List EE) (K : List KK) (inp wV : Nat) : Nat :=
  if k = 0 then E.length else if k = 1 then V.length else if k = 2 then K.length else if k = 3 then inp else if k = 4 then (if 0 < wV then 1 else 0) else wV
theorem not_md {n : Nat} {x : Int32} (hn : n < 2 ^ 31) (h : ¬ md n x) : x.toInt < 0 ∨ (n : Int) ≤ x.toInt := by
  by_cases h0 : x < 0
  · rw [Int32.lt_iff_toInt_lt] at h0
    exact Or.inl h0
  · obtain ⟨j, hj, rfl⟩ := nI_of h0
    right
    rw [nI_toInt hj]
    by_cases q : j < n
    · exact absurd ⟨j, q, rfl⟩ h
    · omega

set_option maxHeartbeats 4000000 in
set_option maxRecDepth 100000 in
theorem c_give (l : Launch) (G : xG) (A : Nat → Prop) (ws : va_W) (hst : l.stackTraces = false) (o z u lv le lk : Nat) (V : List VV) (E : List EE) (K : List KK) (inp : Nat) (w d : Nat → Nat) (wV wC : Nat) (hR : CCs G ws o z u lv le lk V E K inp w d wV wC) (hI : okI V E K inp wV wC) (x1 x2 : Int32) : vx_Met l y_C_give (cw_C_give :: TW) { frames := 13, cells := 40, slots := 2000, locals := 338 } (va_Pc [.ref o, .int x1, .int x2] (x_P G A ws)) (qI G A (fun r w9 => ∃ j, j < E.length ∧ x1 = nI j ∧ eI E j ≠ 0 ∧ r = nI (vAt V (eI E j)).2.2.2 ∧ CCs G w9 o z u lv le lk (V.set (eI E j) (gv (vAt V (eI E j)) (rm x2))) E K inp w d wV wC)) (qX G A (fun Ex w9 => CCs G w9 o z u lv le lk V E K inp w d wV wC ∧ ((Ex = "java/util/NoSuchElementException" ∧ ¬ md E.length x1) ∨ (Ex = "java/lang/UnsupportedOperationException" ∧ ∃ j, j < E.length ∧ x1 = nI j ∧ eI E j = 0)))) 40 2000 A := by
  refine vx_ofW (cc := b_C_give) (maxL := 6) (ret := (some .int)) (by decide) rfl ?_
  intro p e s m args below meth c s₁ B hml hno hv
  obtain ⟨rfl, hE, hA, hP, hD⟩ := hv
  have hx := B.exec
  have hb := B.bytes
  have hr := B.returns
  have ht : ∀ w ∈ TW, w.before _ s = true := fun w h => atoms_spec (ws := cw_C_give :: TW) B.pre w (List.mem_cons_of_mem _ h)
  have hown : s.vm.findClass R_C = some m.cls := findClass_of_methodNamed B.named
  have hlocks := B.notSynchronized
  have hK := hE.1
  have hS : va_S A s.heap s.heap [] := va_S.rf
  have hl := lv_entry ([.ref o, .int x1, .int x2]) (n := 6) (Nat.le_of_ble_eq_true rfl)
  rw [lg_entry_eq]
  generalize (lg_sl ([.ref o, .int x1, .int x2]) ++ List.replicate (6 - (lg_sl ([.ref o, .int x1, .int x2])).length) Slot.unset).toArray = ls at hl ⊢
  have hl : lv_has ls 6 [(0, .ref o), (1, .int x1), (2, .int x2)] := hl
  obtain ⟨i1, i2, i3, i4, i5, i6, i7, i8, i9⟩ := id hI
  obtain ⟨wa_, da_, kV_, kE_, kK_, gV_, gE_, gK_, hX_⟩ := id hR
  obtain ⟨x1_, x2_, x3_, x4_, x5_, x6_, x7_, x8_, x9_, x10_, x11_, x12_, x13_⟩ := id hX_
  obtain ⟨mo_v_, ae_v_, li_v_, -⟩ := id x4_
  obtain ⟨mo_e_, ae_e_, li_e_, -⟩ := id x5_
  obtain ⟨mo_k_, ae_k_, li_k_, -⟩ := id x6_
  refine lv_aload_n hx hb d_C_give_0 rfl (lv_at hl 0 rfl) ?_
  refine lv_iload_n hx hb d_C_give_1 rfl (lv_at hl 1 rfl) ?_
  refine x_calli (va_runV (As := [.int x1]) (rest := []) ⟨hx, hb, hml, hown, ht⟩ (c_isMade l G A ws o z u lv le lk V E K inp w d wV wC hR i3 x1) (cwV 1 ht (TW_V k_ml_C_82 k_im_C_isMade k_se_C_isMade k_in_C k_code_C_isMade) rfl rfl rfl hv_C_isMade ⟨Nat.le_of_ble_eq_true rfl, Nat.le_of_ble_eq_true rfl⟩) ⟨x_blind, va_recv hK hP rfl x1_, x_pre hE hA hS hP hD⟩ rfl rfl hl.1 rfl (lv_room (Nat.le_of_ble_eq_true rfl)) d_C_give_2 ⟨Nat.le_of_ble_eq_true rfl, Nat.le_of_ble_eq_true rfl⟩) hS (fun r3 w2 H locs q1 hP hD hS => ?_)
  obtain ⟨rfl, ⟨rfl, hm⟩ | ⟨rfl, hm⟩⟩ := q1
  · refine x_if_ne hx hb 1 rfl (by omega) (tgt := 16) d_C_give_5 (by decide) (fun c4 => ?_) (fun c4 => ?_)
    · obtain ⟨ja, ga, rfl⟩ := id hm
      refine lv_aload_n hx hb d_C_give_16 rfl (lv_at hl 0 rfl) ?_
      refine va_get (D := xD G) (ci := 0) (C := R_C) (T := F_C) (N := 10) hx hb ht in_C hown hK hP 0 x1_ rfl 3 (by decide) (ht _ k_fl_C_30) (fun _ h9 => h9) rfl d_C_give_17 ?_
      refine lv_iload_n hx hb d_C_give_20 rfl (lv_at hl 1 rfl) ?_
      refine x_callr (va_runV (As := [.int (nI ja)]) (rest := []) ⟨hx, hb, hml, hown, ht⟩ (c_A_get l G A ws 6 kE_ le E.length ja gE_ x5_ ga (by omega)) (cwV 1 ht (TW_V k_ml_C_104 k_im_A_get k_se_A_get k_in_A k_code_A_get) rfl rfl rfl hv_A_get ⟨Nat.le_of_ble_eq_true rfl, Nat.le_of_ble_eq_true rfl⟩) ⟨x_blind, va_recv hK hP rfl li_e_, x_pre hE hA hS hP hD⟩ rfl rfl hl.1 rfl (lv_room (Nat.le_of_ble_eq_true rfl)) d_C_give_21 ⟨Nat.le_of_ble_eq_true rfl, Nat.le_of_ble_eq_true rfl⟩) hS (fun r7 w6 H locs q5 hP hD hS => ?_)
      obtain ⟨rfl, rfl⟩ := q5
      obtain ⟨y, hy⟩ := V_get ga
      have hy9 := i9 ja y hy
      obtain ⟨k9, sa9, c9, s9⟩ := x8_ ja y hy
      refine va_castY hx hb hown (ht _ k_cl_C_69) (hE.2.2.2.2.2.2.2 _ k_ca_E_E) (va_recv hK hP rfl c9) d_C_give_24 ?_
      refine lv_astore_n (lv' := [(3, .ref (gE_ ja)), (0, .ref o), (1, .int (nI ja)), (2, .int x2)]) hx hb d_C_give_27 rfl hl (by decide) rfl (fun ls hl => ?_)
      refine lv_aload_n hx hb d_C_give_28 rfl (lv_at hl 0 rfl) ?_
      refine x_calli (va_runV (As := []) (rest := []) ⟨hx, hb, hml, hown, ht⟩ (c_isInput l G A ws k9 (gE_ ja) (.ref sa9) y.2 (by omega) c9) (cwV 0 ht (TW_V k_ml_C_108 k_im_E_isInput k_se_E_isInput k_in_E k_code_E_isInput) rfl rfl rfl hv_E_isInput ⟨Nat.le_of_ble_eq_true rfl, Nat.le_of_ble_eq_true rfl⟩) ⟨x_blind, va_recv hK hP rfl c9, x_pre hE hA hS hP hD⟩ rfl rfl hl.1 rfl (lv_room (Nat.le_of_ble_eq_true rfl)) d_C_give_29 ⟨Nat.le_of_ble_eq_true rfl, Nat.le_of_ble_eq_true rfl⟩) hS (fun r10 w9 H locs q8 hP hD hS => ?_)
      obtain ⟨rfl, ⟨rfl, hq⟩ | ⟨rfl, hq⟩⟩ := q8
      · refine x_if_ne hx hb 1 rfl (by omega) (tgt := 43) d_C_give_32 (by decide) (fun c11 => ?_) (fun c11 => ?_)
        · refine lv_aload_n hx hb d_C_give_43 rfl (lv_at hl 1 rfl) ?_
          refine va_get (D := xD G) (ci := 0) (C := R_C) (T := F_C) (N := 10) hx hb ht in_C hown hK hP 0 x1_ rfl 2 (by decide) (ht _ k_fl_C_26) (fun _ h9 => h9) rfl d_C_give_44 ?_
          refine lv_aload_n hx hb d_C_give_47 rfl (lv_at hl 0 rfl) ?_
          refine va_get (D := xD G) (ci := 3) (C := R_E) (T := F_E) (N := 2) hx hb ht in_E hown hK hP k9 c9 rfl 1 (by decide) (ht _ k_fl_C_115) (fun _ h9 => h9) rfl d_C_give_48 ?_
          refine x_callr (va_runV (As := [.int (nI y.2)]) (rest := []) ⟨hx, hb, hml, hown, ht⟩ (c_A_get l G A ws 5 kV_ lv V.length y.2 gV_ x4_ hy9 (by omega)) (cwV 1 ht (TW_V k_ml_C_104 k_im_A_get k_se_A_get k_in_A k_code_A_get) rfl rfl rfl hv_A_get ⟨Nat.le_of_ble_eq_true rfl, Nat.le_of_ble_eq_true rfl⟩) ⟨x_blind, va_recv hK hP rfl li_v_, x_pre hE hA hS hP hD⟩ rfl rfl hl.1 rfl (lv_room (Nat.le_of_ble_eq_true rfl)) d_C_give_51 ⟨Nat.le_of_ble_eq_true rfl, Nat.le_of_ble_eq_true rfl⟩) hS (fun r14 w13 H locs q12 hP hD hS => ?_)
          obtain ⟨rfl, rfl⟩ := q12
          obtain ⟨x, hx9⟩ := V_get hy9
          obtain ⟨k8, la8, ra8, c8, s8, t8⟩ := x7_ y.2 x hx9
          refine va_castY hx hb hown (ht _ k_cl_C_43) (hE.2.2.2.2.2.2.2 _ k_ca_V_V) (va_recv hK hP rfl c8) d_C_give_54 ?_
          refine lv_astore (lv' := [(4, .ref (gV_ y.2)), (3, .ref (gE_ ja)), (0, .ref o), (1, .int (nI ja)), (2, .int x2)]) hx hb d_C_give_57 hl (by decide) rfl (fun ls hl => ?_)
          refine lv_aload hx hb d_C_give_59 (lv_at hl 0 rfl) ?_
          refine va_get (D := xD G) (ci := 2) (C := R_V) (T := F_V) (N := 4) hx hb ht in_V hown hK hP k8 c8 rfl 3 (by decide) (ht _ k_fl_C_119) (fun _ h9 => h9) rfl d_C_give_61 ?_
          refine lv_istore (lv' := [(5, .int (nI x.2.2.2)), (4, .ref (gV_ y.2)), (3, .ref (gE_ ja)), (0, .ref o), (1, .int (nI ja)), (2, .int x2)]) hx hb d_C_give_64 hl (by decide) rfl (fun ls hl => ?_)
          refine lv_aload hx hb d_C_give_66 (lv_at hl 1 rfl) ?_
          refine lv_iload_n hx hb d_C_give_68 rfl (lv_at hl 5 rfl) ?_
          refine x_calli (va_runS (As := [.int x2]) (rest := [.ref (gV_ y.2)]) ⟨hx, hb, hml, hown, ht⟩ (c_remainder l G A ws x2) (va_cwS 1 ht (TW_S k_ml_C_122 k_st_C_remainder k_in_C k_code_C_remainder) rfl rfl rfl hv_C_remainder.2 ⟨Nat.le_of_ble_eq_true rfl, Nat.le_of_ble_eq_true rfl⟩) ⟨x_blind, x_pre hE hA hS hP hD⟩ rfl rfl hl.1 rfl (lv_room (Nat.le_of_ble_eq_true rfl)) d_C_give_69 ⟨Nat.le_of_ble_eq_true rfl, Nat.le_of_ble_eq_true rfl⟩) hS (fun r17 w16 H locs q15 hP hD hS => ?_)
          obtain ⟨rfl, rfl⟩ := q15
          have hX2 := CCx.setG hX_ hx9 c8 s8 t8 (rm x2)
          refine va_put (D := xD G) (ci := 2) (v := .int (nI (rm x2))) (ty := .int) (C := R_V) (T := F_V) (N := 4) hx hb ht in_V ft_V fo_V nm_V hown hK hP hD hS k8 c8 rfl 3 (by decide) (ht _ k_fl_C_119) (fun _ h9 => h9) rfl (by decide +kernel) rfl rfl (Nat.le_of_ble_eq_true rfl) d_C_give_72 (fun H locs hP hD hS => ?_)
          have hP : va_P (xD G) CL (ws.set k8 ((gV_ y.2), .inr (2, [.int (nI x.1), .ref la8, .ref ra8, .int (nI (rm x2))]))) H := hP
          have hD : va_D A (ws.set k8 ((gV_ y.2), .inr (2, [.int (nI x.1), .ref la8, .ref ra8, .int (nI (rm x2))]))) := hD
          obtain ⟨w18, e_w18⟩ : ∃ zz : va_W, zz = ws.set k8 ((gV_ y.2), .inr (2, [.int (nI x.1), .ref la8, .ref ra8, .int (nI (rm x2))])) := ⟨_, rfl⟩
          rw [← e_w18] at hP hD
          have h19 : w18[k8]? = some ((gV_ y.2), .inr (2, [.int (nI x.1), .ref la8, .ref ra8, .int (nI (rm x2))])) := by rw [e_w18]; exact w_eq c8
          rw [← e_w18] at hX2
          refine lv_iload hx hb d_C_give_75 (lv_at hl 0 rfl) ?_
          refine vx_ret ?_
          exact x_iret hx hb hr hlocks hS hP hD (Nat.le_of_ble_eq_true rfl) (Nat.le_of_ble_eq_true rfl) d_C_give_77 (⟨ja, ga, rfl, by rw [eI_of hy]; exact hq, by rw [eI_of hy, vAt_of hx9], by rw [eI_of hy, vAt_of hx9]; exact ⟨_, _, _, _, _, _, _, _, hX2⟩⟩)
        · exact False.elim (by omega)
      · refine x_if_ne hx hb 0 rfl (by omega) (tgt := 43) d_C_give_32 (by decide) (fun c20 => ?_) (fun c20 => ?_)
        · exact False.elim (by omega)
        · exact vx_throw0 (own := R_C) (cls := "java/lang/UnsupportedOperationException") (names := ["java/lang/RuntimeException", "java/lang/Exception"]) hx hb hst hown (by decide) (by decide) (ht _ k_cl_C_112) (ht _ k_in_UnsupportedOperationException) (x_hat ht hE.2.2.2.2.2.2.2 at_UOE) hg_UOE hE.2.2.2.2.2.1 hE.2.2.2.2.2.2.1 hS (hl.1.trans hml.symm) d_C_give_35 d_C_give_38 d_C_give_39 d_C_give_42 (fun x h => (hno x h).elim) (Nat.le_of_ble_eq_true rfl) (Nat.le_of_ble_eq_true rfl) (Nat.le_of_ble_eq_true rfl) (Nat.le_of_ble_eq_true rfl) hlocks (x_thrown hS hP hD (⟨hR, Or.inr ⟨rfl, ja, ga, rfl, (eI_of hy).trans hq⟩⟩)) hS.2.2 (Nat.le_of_ble_eq_true rfl) (Nat.le_of_ble_eq_true rfl)
    · exact False.elim (by omega)
  · refine x_if_ne hx hb 0 rfl (by omega) (tgt := 16) d_C_give_5 (by decide) (fun c21 => ?_) (fun c21 => ?_)
    · exact False.elim (by omega)
    · exact vx_throw0 (own := R_C) (cls := "java/util/NoSuchElementException") (names := ["java/lang/RuntimeException", "java/lang/Exception"]) hx hb hst hown (by decide) (by decide) (ht _ k_cl_C_101) (ht _ k_in_NoSuchElementException) (x_hat ht hE.2.2.2.2.2.2.2 at_NSE) hg_NSE hE.2.2.2.2.2.1 hE.2.2.2.2.2.2.1 hS (hl.1.trans hml.symm) d_C_give_8 d_C_give_11 d_C_give_12 d_C_give_15 (fun x h => (hno x h).elim) (Nat.le_of_ble_eq_true rfl) (Nat.le_of_ble_eq_true rfl) (Nat.le_of_ble_eq_true rfl) (Nat.le_of_ble_eq_true rfl) hlocks (x_thrown hS hP hD (⟨hR, Or.inl ⟨rfl, hm⟩⟩)) hS.2.2 (Nat.le_of_ble_eq_true rfl) (Nat.le_of_ble_eq_true rfl)

set_option maxHeartbeats 4000000 in
set_option maxRecDepth 100000 in
theorem c_solve (l : Launch) (G : xG) (A : Nat → Prop) (ws : va_W) (hst : l.stackTraces = false) (o z u lv le lk : Nat) (V : List VV) (E : List EE) (K : List KK) (inp : Nat) (w d : Nat → Nat) (wV wC : Nat) (hR : CCs G ws o z u lv le lk V E K inp w d wV wC) (hI : okI V E K inp wV wC) : vx_Met l y_C_solve (cw_C_solve :: TW) { frames := 13, cells := 40, slots := 2000, locals := 338 } (va_Pc [.ref o] (x_P G A ws)) (qI G A (fun r w9 => ∃ d' : Nat → Nat, fil V V.length 0 d = (true, d') ∧ r = nI (brk K d' K.length) ∧ CCs G w9 o z u lv le lk V E K inp d' w V.length K.length)) (qX G A (fun Ex w9 => Ex = "java/lang/ArithmeticException" ∧ ∃ d' : Nat → Nat, fil V V.length 0 d = (false, d') ∧ CCs G w9 o z u lv le lk V E K inp w d' wV wC)) 40 2000 A := by
  refine vx_ofW (cc := b_C_solve) (maxL := 2) (ret := (some .int)) (by decide) rfl ?_
  intro p e s m args below meth c s₁ B hml hno hv
  obtain ⟨rfl, hE, hA, hP, hD⟩ := hv
  have hx := B.exec
  have hb := B.bytes
  have hr := B.returns
  have ht : ∀ w ∈ TW, w.before _ s = true := fun w h => atoms_spec (ws := cw_C_solve :: TW) B.pre w (List.mem_cons_of_mem _ h)
  have hown : s.vm.findClass R_C = some m.cls := findClass_of_methodNamed B.named
  have hlocks := B.notSynchronized
  have hK := hE.1
  have hS : va_S A s.heap s.heap [] := va_S.rf
  have hl := lv_entry ([.ref o]) (n := 2) (Nat.le_of_ble_eq_true rfl)
  rw [lg_entry_eq]
  generalize (lg_sl ([.ref o]) ++ List.replicate (2 - (lg_sl ([.ref o])).length) Slot.unset).toArray = ls at hl ⊢
  have hl : lv_has ls 2 [(0, .ref o)] := hl
  obtain ⟨i1, i2, i3, i4, i5, i6, i7, i8, i9⟩ := id hI
  obtain ⟨wa0, da0, ho0⟩ := CCs.o hR
  refine lv_aload_n hx hb d_C_solve_0 rfl (lv_at hl 0 rfl) ?_
  refine x_calli (va_runV (As := []) (rest := []) ⟨hx, hb, hml, hown, ht⟩ (c_fill l G A ws o z u lv le lk V E K inp w d wV wC hR i2 i8) (cwV 0 ht (TW_V k_ml_C_126 k_im_C_fillDraft k_se_C_fillDraft k_in_C k_code_C_fillDraft) rfl rfl rfl hv_C_fillDraft ⟨Nat.le_of_ble_eq_true rfl, Nat.le_of_ble_eq_true rfl⟩) ⟨x_blind, va_recv hK hP rfl ho0, x_pre hE hA hS hP hD⟩ rfl rfl hl.1 rfl (lv_room (Nat.le_of_ble_eq_true rfl)) d_C_solve_1 ⟨Nat.le_of_ble_eq_true rfl, Nat.le_of_ble_eq_true rfl⟩) hS (fun r3 w2 H locs q1 hP hD hS => ?_)
  obtain ⟨d', hR1, kk1, ⟨rfl, hf⟩ | ⟨rfl, hf⟩⟩ := q1
  · refine x_if_ne hx hb 1 rfl (by omega) (tgt := 15) d_C_solve_4 (by decide) (fun c4 => ?_) (fun c4 => ?_)
    · obtain ⟨wa_, da_, kV_, kE_, kK_, gV_, gE_, gK_, hX_⟩ := id hR1
      obtain ⟨x1_, x2_, x3_, x4_, x5_, x6_, x7_, x8_, x9_, x10_, x11_, x12_, x13_⟩ := id hX_
      obtain ⟨mo_v_, ae_v_, li_v_, -⟩ := id x4_
      obtain ⟨mo_e_, ae_e_, li_e_, -⟩ := id x5_
      obtain ⟨mo_k_, ae_k_, li_k_, -⟩ := id x6_
      obtain ⟨kw_, kd_, hw_, hd_, y0_, y1_, y2_, y3_, y4_, y5_, y6_⟩ := id x12_
      have iL4 := x4_
      have iL6 := x6_
      refine lv_aload_n hx hb d_C_solve_15 rfl (lv_at hl 0 rfl) ?_
      refine va_get (D := xD G) (ci := 0) (C := R_C) (T := F_C) (N := 10) hx hb ht in_C hown hK hP 0 x1_ rfl 6 (by decide) (ht _ k_fl_C_36) (fun _ h9 => h9) rfl d_C_solve_16 ?_
      refine lv_astore_n (lv' := [(1, .ref wa_), (0, .ref o)]) hx hb d_C_solve_19 rfl hl (by decide) rfl (fun ls hl => ?_)
      refine lv_aload_n hx hb d_C_solve_20 rfl (lv_at hl 1 rfl) ?_
      refine lv_aload_n hx hb d_C_solve_21 rfl (lv_at hl 1 rfl) ?_
      refine va_get (D := xD G) (ci := 0) (C := R_C) (T := F_C) (N := 10) hx hb ht in_C hown hK hP 0 x1_ rfl 7 (by decide) (ht _ k_fl_C_40) (fun _ h9 => h9) rfl d_C_solve_22 ?_
      refine va_put (D := xD G) (ci := 0) (v := .ref da_) (ty := .array .int) (C := R_C) (T := F_C) (N := 10) hx hb ht in_C ft_C fo_C nm_C hown hK hP hD hS 0 x1_ rfl 6 (by decide) (ht _ k_fl_C_36) (fun _ h9 => h9) rfl (by decide +kernel) rfl rfl (Nat.le_of_ble_eq_true rfl) d_C_solve_25 (fun H locs hP hD hS => ?_)
      have hP : va_P (xD G) CL (w2.set 0 (o, .inr (0, [.ref z, .ref u, .ref lv, .ref le, .ref lk, .int (nI inp), .ref da_, .ref da_, .int (nI wV), .int (nI wC)]))) H := hP
      have hD : va_D A (w2.set 0 (o, .inr (0, [.ref z, .ref u, .ref lv, .ref le, .ref lk, .int (nI inp), .ref da_, .ref da_, .int (nI wV), .int (nI wC)]))) := hD
      obtain ⟨w5, e_w5⟩ : ∃ zz : va_W, zz = w2.set 0 (o, .inr (0, [.ref z, .ref u, .ref lv, .ref le, .ref lk, .int (nI inp), .ref da_, .ref da_, .int (nI wV), .int (nI wC)])) := ⟨_, rfl⟩
      rw [← e_w5] at hP hD
      have h6 : w5[0]? = some (o, .inr (0, [.ref z, .ref u, .ref lv, .ref le, .ref lk, .int (nI inp), .ref da_, .ref da_, .int (nI wV), .int (nI wC)])) := by rw [e_w5]; exact w_eq x1_
      have iL4 := iL4.set0 (x := (o, .inr (0, [.ref z, .ref u, .ref lv, .ref le, .ref lk, .int (nI inp), .ref da_, .ref da_, .int (nI wV), .int (nI wC)]))) x1_
      rw [← e_w5] at iL4
      have iL6 := iL6.set0 (x := (o, .inr (0, [.ref z, .ref u, .ref lv, .ref le, .ref lk, .int (nI inp), .ref da_, .ref da_, .int (nI wV), .int (nI wC)]))) x1_
      rw [← e_w5] at iL6
      refine lv_aload_n hx hb d_C_solve_28 rfl (lv_at hl 1 rfl) ?_
      refine lv_aload_n hx hb d_C_solve_29 rfl (lv_at hl 0 rfl) ?_
      refine va_put (D := xD G) (ci := 0) (v := .ref wa_) (ty := .array .int) (C := R_C) (T := F_C) (N := 10) hx hb ht in_C ft_C fo_C nm_C hown hK hP hD hS 0 h6 rfl 7 (by decide) (ht _ k_fl_C_40) (fun _ h9 => h9) rfl (by decide +kernel) rfl rfl (Nat.le_of_ble_eq_true rfl) d_C_solve_30 (fun H locs hP hD hS => ?_)
      have hP : va_P (xD G) CL (w5.set 0 (o, .inr (0, [.ref z, .ref u, .ref lv, .ref le, .ref lk, .int (nI inp), .ref da_, .ref wa_, .int (nI wV), .int (nI wC)]))) H := hP
      have hD : va_D A (w5.set 0 (o, .inr (0, [.ref z, .ref u, .ref lv, .ref le, .ref lk, .int (nI inp), .ref da_, .ref wa_, .int (nI wV), .int (nI wC)]))) := hD
      obtain ⟨w7, e_w7⟩ : ∃ zz : va_W, zz = w5.set 0 (o, .inr (0, [.ref z, .ref u, .ref lv, .ref le, .ref lk, .int (nI inp), .ref da_, .ref wa_, .int (nI wV), .int (nI wC)])) := ⟨_, rfl⟩
      rw [← e_w7] at hP hD
      have h8 : w7[0]? = some (o, .inr (0, [.ref z, .ref u, .ref lv, .ref le, .ref lk, .int (nI inp), .ref da_, .ref wa_, .int (nI wV), .int (nI wC)])) := by rw [e_w7]; exact w_eq h6
      have iL4 := iL4.set0 (x := (o, .inr (0, [.ref z, .ref u, .ref lv, .ref le, .ref lk, .int (nI inp), .ref da_, .ref wa_, .int (nI wV), .int (nI wC)]))) h6
      rw [← e_w7] at iL4
      have iL6 := iL6.set0 (x := (o, .inr (0, [.ref z, .ref u, .ref lv, .ref le, .ref lk, .int (nI inp), .ref da_, .ref wa_, .int (nI wV), .int (nI wC)]))) h6
      rw [← e_w7] at iL6
      refine lv_aload_n hx hb d_C_solve_33 rfl (lv_at hl 1 rfl) ?_
      refine lv_aload_n hx hb d_C_solve_34 rfl (lv_at hl 1 rfl) ?_
      refine va_get (D := xD G) (ci := 0) (C := R_C) (T := F_C) (N := 10) hx hb ht in_C hown hK hP 0 h8 rfl 2 (by decide) (ht _ k_fl_C_26) (fun _ h9 => h9) rfl d_C_solve_35 ?_
      obtain ⟨mo1, ae1, li1, -⟩ := id iL4
      refine x_calli (va_runV (As := []) (rest := [.ref o]) ⟨hx, hb, hml, hown, ht⟩ (c_A_size l G A w7 5 kV_ lv V.length gV_ iL4) (cwV 0 ht (TW_V k_ml_C_78 k_im_A_size k_se_A_size k_in_A k_code_A_size) rfl rfl rfl hv_A_size ⟨Nat.le_of_ble_eq_true rfl, Nat.le_of_ble_eq_true rfl⟩) ⟨x_blind, va_recv hK hP rfl li1, x_pre hE hA hS hP hD⟩ rfl rfl hl.1 rfl (lv_room (Nat.le_of_ble_eq_true rfl)) d_C_solve_38 ⟨Nat.le_of_ble_eq_true rfl, Nat.le_of_ble_eq_true rfl⟩) hS (fun r11 w10 H locs q9 hP hD hS => ?_)
      obtain ⟨rfl, rfl⟩ := q9
      refine va_put (D := xD G) (ci := 0) (v := .int (nI V.length)) (ty := .int) (C := R_C) (T := F_C) (N := 10) hx hb ht in_C ft_C fo_C nm_C hown hK hP hD hS 0 h8 rfl 8 (by decide) (ht _ k_fl_C_132) (fun _ h9 => h9) rfl (by decide +kernel) rfl rfl (Nat.le_of_ble_eq_true rfl) d_C_solve_41 (fun H locs hP hD hS => ?_)
      have hP : va_P (xD G) CL (w7.set 0 (o, .inr (0, [.ref z, .ref u, .ref lv, .ref le, .ref lk, .int (nI inp), .ref da_, .ref wa_, .int (nI V.length), .int (nI wC)]))) H := hP
      have hD : va_D A (w7.set 0 (o, .inr (0, [.ref z, .ref u, .ref lv, .ref le, .ref lk, .int (nI inp), .ref da_, .ref wa_, .int (nI V.length), .int (nI wC)]))) := hD
      obtain ⟨w12, e_w12⟩ : ∃ zz : va_W, zz = w7.set 0 (o, .inr (0, [.ref z, .ref u, .ref lv, .ref le, .ref lk, .int (nI inp), .ref da_, .ref wa_, .int (nI V.length), .int (nI wC)])) := ⟨_, rfl⟩
      rw [← e_w12] at hP hD
      have h13 : w12[0]? = some (o, .inr (0, [.ref z, .ref u, .ref lv, .ref le, .ref lk, .int (nI inp), .ref da_, .ref wa_, .int (nI V.length), .int (nI wC)])) := by rw [e_w12]; exact w_eq h8
      have iL4 := iL4.set0 (x := (o, .inr (0, [.ref z, .ref u, .ref lv, .ref le, .ref lk, .int (nI inp), .ref da_, .ref wa_, .int (nI V.length), .int (nI wC)]))) h8
      rw [← e_w12] at iL4
      have iL6 := iL6.set0 (x := (o, .inr (0, [.ref z, .ref u, .ref lv, .ref le, .ref lk, .int (nI inp), .ref da_, .ref wa_, .int (nI V.length), .int (nI wC)]))) h8
      rw [← e_w12] at iL6
      refine lv_aload_n hx hb d_C_solve_44 rfl (lv_at hl 1 rfl) ?_
      refine lv_aload_n hx hb d_C_solve_45 rfl (lv_at hl 1 rfl) ?_
      refine va_get (D := xD G) (ci := 0) (C := R_C) (T := F_C) (N := 10) hx hb ht in_C hown hK hP 0 h13 rfl 4 (by decide) (ht _ k_fl_C_33) (fun _ h9 => h9) rfl d_C_solve_46 ?_
      obtain ⟨mo2, ae2, li2, -⟩ := id iL6
      refine x_calli (va_runV (As := []) (rest := [.ref o]) ⟨hx, hb, hml, hown, ht⟩ (c_A_size l G A w12 7 kK_ lk K.length gK_ iL6) (cwV 0 ht (TW_V k_ml_C_78 k_im_A_size k_se_A_size k_in_A k_code_A_size) rfl rfl rfl hv_A_size ⟨Nat.le_of_ble_eq_true rfl, Nat.le_of_ble_eq_true rfl⟩) ⟨x_blind, va_recv hK hP rfl li2, x_pre hE hA hS hP hD⟩ rfl rfl hl.1 rfl (lv_room (Nat.le_of_ble_eq_true rfl)) d_C_solve_49 ⟨Nat.le_of_ble_eq_true rfl, Nat.le_of_ble_eq_true rfl⟩) hS (fun r16 w15 H locs q14 hP hD hS => ?_)
      obtain ⟨rfl, rfl⟩ := q14
      refine va_put (D := xD G) (ci := 0) (v := .int (nI K.length)) (ty := .int) (C := R_C) (T := F_C) (N := 10) hx hb ht in_C ft_C fo_C nm_C hown hK hP hD hS 0 h13 rfl 9 (by decide) (ht _ k_fl_C_135) (fun _ h9 => h9) rfl (by decide +kernel) rfl rfl (Nat.le_of_ble_eq_true rfl) d_C_solve_52 (fun H locs hP hD hS => ?_)
      have hP : va_P (xD G) CL (w12.set 0 (o, .inr (0, [.ref z, .ref u, .ref lv, .ref le, .ref lk, .int (nI inp), .ref da_, .ref wa_, .int (nI V.length), .int (nI K.length)]))) H := hP
      have hD : va_D A (w12.set 0 (o, .inr (0, [.ref z, .ref u, .ref lv, .ref le, .ref lk, .int (nI inp), .ref da_, .ref wa_, .int (nI V.length), .int (nI K.length)]))) := hD
      obtain ⟨w17, e_w17⟩ : ∃ zz : va_W, zz = w12.set 0 (o, .inr (0, [.ref z, .ref u, .ref lv, .ref le, .ref lk, .int (nI inp), .ref da_, .ref wa_, .int (nI V.length), .int (nI K.length)])) := ⟨_, rfl⟩
      rw [← e_w17] at hP hD
      have h18 : w17[0]? = some (o, .inr (0, [.ref z, .ref u, .ref lv, .ref le, .ref lk, .int (nI inp), .ref da_, .ref wa_, .int (nI V.length), .int (nI K.length)])) := by rw [e_w17]; exact w_eq h13
      have iL4 := iL4.set0 (x := (o, .inr (0, [.ref z, .ref u, .ref lv, .ref le, .ref lk, .int (nI inp), .ref da_, .ref wa_, .int (nI V.length), .int (nI K.length)]))) h13
      rw [← e_w17] at iL4
      have iL6 := iL6.set0 (x := (o, .inr (0, [.ref z, .ref u, .ref lv, .ref le, .ref lk, .int (nI inp), .ref da_, .ref wa_, .int (nI V.length), .int (nI K.length)]))) h13
      rw [← e_w17] at iL6
      have r2 : rows2 G w2 da_ wa_ d' w := ⟨kd_, kw_, hd_, hw_, by omega, y2_, y1_, y5_, y6_, y3_, y4_⟩
      have hX2 := (CCx.put0 (inp2 := inp) (wV2 := V.length) (wC2 := K.length) hX_ r2).1
      have e9 : w17 = w2.set 0 (o, .inr (0, [.ref z, .ref u, .ref lv, .ref le, .ref lk, .int (nI inp), .ref da_, .ref wa_, .int (nI V.length), .int (nI K.length)])) := by rw [e_w17, e_w12, e_w7, e_w5]; simp only [List.set_set]
      rw [← e9] at hX2
      have hR2 : CCs G w17 o z u lv le lk V E K inp d' w V.length K.length := ⟨_, _, _, _, _, _, _, _, hX2⟩
      refine lv_aload_n hx hb d_C_solve_55 rfl (lv_at hl 1 rfl) ?_
      refine x_calli (va_runV (As := []) (rest := []) ⟨hx, hb, hml, hown, ht⟩ (c_broken l G A w17 o z u lv le lk V E K inp d' w V.length K.length hR2 i4 (Nat.le_refl _)) (cwV 0 ht (TW_V k_ml_C_138 k_im_C_howManyBroken k_se_C_howManyBroken k_in_C k_code_C_howManyBroken) rfl rfl rfl hv_C_howManyBroken ⟨Nat.le_of_ble_eq_true rfl, Nat.le_of_ble_eq_true rfl⟩) ⟨x_blind, va_recv hK hP rfl h18, x_pre hE hA hS hP hD⟩ rfl rfl hl.1 rfl (lv_room (Nat.le_of_ble_eq_true rfl)) d_C_solve_56 ⟨Nat.le_of_ble_eq_true rfl, Nat.le_of_ble_eq_true rfl⟩) hS (fun r21 w20 H locs q19 hP hD hS => ?_)
      obtain ⟨rfl, rfl⟩ := q19
      refine vx_ret ?_
      exact x_iret hx hb hr hlocks hS hP hD (Nat.le_of_ble_eq_true rfl) (Nat.le_of_ble_eq_true rfl) d_C_solve_59 (⟨d', hf, rfl, hR2⟩)
    · exact False.elim (by omega)
  · refine x_if_ne hx hb 0 rfl (by omega) (tgt := 15) d_C_solve_4 (by decide) (fun c22 => ?_) (fun c22 => ?_)
    · exact False.elim (by omega)
    · exact vx_throw0 (own := R_C) (cls := "java/lang/ArithmeticException") (names := ["java/lang/RuntimeException", "java/lang/Exception"]) hx hb hst hown (by decide) (by decide) (ht _ k_cl_C_129) (ht _ k_in_ArithmeticException) (x_hat ht hE.2.2.2.2.2.2.2 at_AE) hg_AE hE.2.2.2.2.2.1 hE.2.2.2.2.2.2.1 hS (hl.1.trans hml.symm) d_C_solve_7 d_C_solve_10 d_C_solve_11 d_C_solve_14 (fun x h => (hno x h).elim) (Nat.le_of_ble_eq_true rfl) (Nat.le_of_ble_eq_true rfl) (Nat.le_of_ble_eq_true rfl) (Nat.le_of_ble_eq_true rfl) hlocks (x_thrown hS hP hD (⟨rfl, d', hf, hR1⟩)) hS.2.2 (Nat.le_of_ble_eq_true rfl) (Nat.le_of_ble_eq_true rfl)

set_option maxHeartbeats 4000000 in
set_option maxRecDepth 100000 in
theorem c_first (l : Launch) (G : xG) (A : Nat → Prop) (ws : va_W) (hst : l.stackTraces = false) (o z u lv le lk : Nat) (V : List VV) (E : List EE) (K : List KK) (inp : Nat) (w d : Nat → Nat) (wV wC : Nat) (hR : CCs G ws o z u lv le lk V E K inp w d wV wC) (hI : okI V E K inp wV wC) : vx_Met l y_C_first (cw_C_first :: TW) { frames := 13, cells := 40, slots := 2000, locals := 338 } (va_Pc [.ref o] (x_P G A ws)) (qI G A (fun r w9 => CCs G w9 o z u lv le lk V E K inp w d wV wC ∧ 0 < wV ∧ ∃ j, j < wC ∧ (∀ i, i < j → hld (kAt K i) w) ∧ ¬ hld (kAt K j) w ∧ r = nI j)) (qX G A (fun Ex w9 => CCs G w9 o z u lv le lk V E K inp w d wV wC ∧ ((Ex = "java/lang/IllegalStateException" ∧ wV = 0) ∨ (Ex = "java/util/NoSuchElementException" ∧ 0 < wV ∧ ∀ i, i < wC → hld (kAt K i) w)))) 40 2000 A := by
  refine vx_ofW (cc := b_C_first) (maxL := 2) (ret := (some .int)) (by decide) rfl ?_
  intro p e s m args below meth c s₁ B hml hno hv
  obtain ⟨rfl, hE, hA, hP, hD⟩ := hv
  have hx := B.exec
  have hb := B.bytes
  have hr := B.returns
  have ht : ∀ w ∈ TW, w.before _ s = true := fun w h => atoms_spec (ws := cw_C_first :: TW) B.pre w (List.mem_cons_of_mem _ h)
  have hown : s.vm.findClass R_C = some m.cls := findClass_of_methodNamed B.named
  have hlocks := B.notSynchronized
  have hK := hE.1
  have hS : va_S A s.heap s.heap [] := va_S.rf
  have hl := lv_entry ([.ref o]) (n := 2) (Nat.le_of_ble_eq_true rfl)
  rw [lg_entry_eq]
  generalize (lg_sl ([.ref o]) ++ List.replicate (2 - (lg_sl ([.ref o])).length) Slot.unset).toArray = ls at hl ⊢
  have hl : lv_has ls 2 [(0, .ref o)] := hl
  obtain ⟨i1, i2, i3, i4, i5, i6, i7, i8, i9⟩ := id hI
  obtain ⟨wa_, da_, kV_, kE_, kK_, gV_, gE_, gK_, hX_⟩ := id hR
  obtain ⟨x1_, x2_, x3_, x4_, x5_, x6_, x7_, x8_, x9_, x10_, x11_, x12_, x13_⟩ := id hX_
  obtain ⟨mo_v_, ae_v_, li_v_, -⟩ := id x4_
  obtain ⟨mo_e_, ae_e_, li_e_, -⟩ := id x5_
  obtain ⟨mo_k_, ae_k_, li_k_, -⟩ := id x6_
  obtain ⟨kw_, kd_, hw_, hd_, y0_, y1_, y2_, y3_, y4_, y5_, y6_⟩ := id x12_
  have iw : isW G ws wa_ w := ⟨kw_, hw_, y1_, y3_, y4_⟩
  refine lv_aload_n hx hb d_C_first_0 rfl (lv_at hl 0 rfl) ?_
  refine x_calli (va_runV (As := []) (rest := []) ⟨hx, hb, hml, hown, ht⟩ (c_hasW l G A ws o z u lv le lk V E K inp w d wV wC hR (by omega)) (cwV 0 ht (TW_V k_ml_C_141 k_im_C_hasWitness k_se_C_hasWitness k_in_C k_code_C_hasWitness) rfl rfl rfl hv_C_hasWitness ⟨Nat.le_of_ble_eq_true rfl, Nat.le_of_ble_eq_true rfl⟩) ⟨x_blind, va_recv hK hP rfl x1_, x_pre hE hA hS hP hD⟩ rfl rfl hl.1 rfl (lv_room (Nat.le_of_ble_eq_true rfl)) d_C_first_1 ⟨Nat.le_of_ble_eq_true rfl, Nat.le_of_ble_eq_true rfl⟩) hS (fun r3 w2 H locs q1 hP hD hS => ?_)
  obtain ⟨rfl, ⟨rfl, hm⟩ | ⟨rfl, hm⟩⟩ := q1
  · refine x_if_ne hx hb 1 rfl (by omega) (tgt := 15) d_C_first_4 (by decide) (fun c4 => ?_) (fun c4 => ?_)
    · refine lv_iconst (v := (nI 0)) hx hb d_C_first_15 (by decide) ?_
      refine lv_istore_n (lv' := [(1, .int (nI 0)), (0, .ref o)]) hx hb d_C_first_16 rfl hl (by decide) rfl (fun ls hl => ?_)
      have loop : ∀ (n i : Nat), i + n = wC → ∀ (H : Heap) (locs : List Loc) (ls : Array Slot), (va_P (xD G) CL ws H) → (va_S A s.heap H locs) → (∀ i2, i2 < i → hld (kAt K i2) w) → lv_has ls 2 [(1, .int (nI i)), (0, .ref o)] → W p l e (headSpec (cw_C_first :: TW) { frames := 13, cells := 40, slots := 2000, locals := 338 }).room s m ([.ref o] : List Value).toArray below meth c H locs 0 0 (vx_MQ below (qI G A (fun r w9 => CCs G w9 o z u lv le lk V E K inp w d wV wC ∧ 0 < wV ∧ ∃ j, j < wC ∧ (∀ i, i < j → hld (kAt K i) w) ∧ ¬ hld (kAt K j) w ∧ r = nI j)) (qX G A (fun Ex w9 => CCs G w9 o z u lv le lk V E K inp w d wV wC ∧ ((Ex = "java/lang/IllegalStateException" ∧ wV = 0) ∨ (Ex = "java/util/NoSuchElementException" ∧ 0 < wV ∧ ∀ i, i < wC → hld (kAt K i) w)))) ([.ref o] : List Value).toArray s 40 2000 A) (F0 m 17 ls []) := by
        intro n
        induction n with
        | zero =>
          intro i hi H locs ls hP hS hal hl
          refine lv_iload_n hx hb d_C_first_17 rfl (lv_at hl 0 rfl) ?_
          refine lv_aload_n hx hb d_C_first_18 rfl (lv_at hl 1 rfl) ?_
          refine va_get (D := xD G) (ci := 0) (C := R_C) (T := F_C) (N := 10) hx hb ht in_C hown hK hP 0 x1_ rfl 9 (by decide) (ht _ k_fl_C_135) (fun _ h9 => h9) rfl d_C_first_19 ?_
          refine x_ge hx hb i wC rfl rfl (by omega) (by omega) (tgt := 54) d_C_first_22 (by decide) (fun c5 => ?_) (fun c5 => ?_)
          · have i0 : i = wC := by omega
            exact vx_throw0 (own := R_C) (cls := "java/util/NoSuchElementException") (names := ["java/lang/RuntimeException", "java/lang/Exception"]) hx hb hst hown (by decide) (by decide) (ht _ k_cl_C_101) (ht _ k_in_NoSuchElementException) (x_hat ht hE.2.2.2.2.2.2.2 at_NSE) hg_NSE hE.2.2.2.2.2.1 hE.2.2.2.2.2.2.1 hS (hl.1.trans hml.symm) d_C_first_54 d_C_first_57 d_C_first_58 d_C_first_61 (fun x h => (hno x h).elim) (Nat.le_of_ble_eq_true rfl) (Nat.le_of_ble_eq_true rfl) (Nat.le_of_ble_eq_true rfl) (Nat.le_of_ble_eq_true rfl) hlocks (x_thrown hS hP hD (⟨hR, Or.inr ⟨rfl, hm, by rw [← i0]; exact hal⟩⟩)) hS.2.2 (Nat.le_of_ble_eq_true rfl) (Nat.le_of_ble_eq_true rfl)
          · exact False.elim (by omega)
        | succ n ih =>
          intro i hi H locs ls hP hS hal hl
          refine lv_iload_n hx hb d_C_first_17 rfl (lv_at hl 0 rfl) ?_
          refine lv_aload_n hx hb d_C_first_18 rfl (lv_at hl 1 rfl) ?_
          refine va_get (D := xD G) (ci := 0) (C := R_C) (T := F_C) (N := 10) hx hb ht in_C hown hK hP 0 x1_ rfl 9 (by decide) (ht _ k_fl_C_135) (fun _ h9 => h9) rfl d_C_first_19 ?_
          refine x_ge hx hb i wC rfl rfl (by omega) (by omega) (tgt := 54) d_C_first_22 (by decide) (fun c6 => ?_) (fun c6 => ?_)
          · exact False.elim (by omega)
          · obtain ⟨y, hy⟩ := V_get (show i < K.length by omega)
            have hi9 : i < K.length := by omega
            refine lv_aload_n hx hb d_C_first_25 rfl (lv_at hl 1 rfl) ?_
            refine va_get (D := xD G) (ci := 0) (C := R_C) (T := F_C) (N := 10) hx hb ht in_C hown hK hP 0 x1_ rfl 4 (by decide) (ht _ k_fl_C_33) (fun _ h9 => h9) rfl d_C_first_26 ?_
            refine lv_iload_n hx hb d_C_first_29 rfl (lv_at hl 0 rfl) ?_
            refine x_callr (va_runV (As := [.int (nI i)]) (rest := []) ⟨hx, hb, hml, hown, ht⟩ (c_A_get l G A ws 7 kK_ lk K.length i gK_ x6_ hi9 (by omega)) (cwV 1 ht (TW_V k_ml_C_104 k_im_A_get k_se_A_get k_in_A k_code_A_get) rfl rfl rfl hv_A_get ⟨Nat.le_of_ble_eq_true rfl, Nat.le_of_ble_eq_true rfl⟩) ⟨x_blind, va_recv hK hP rfl li_k_, x_pre hE hA hS hP hD⟩ rfl rfl hl.1 rfl (lv_room (Nat.le_of_ble_eq_true rfl)) d_C_first_30 ⟨Nat.le_of_ble_eq_true rfl, Nat.le_of_ble_eq_true rfl⟩) hS (fun r9 w8 H locs q7 hP hD hS => ?_)
            obtain ⟨rfl, rfl⟩ := q7
            have ic := x9_ i y hy
            obtain ⟨k9, xa9, ya9, za9, c9, -⟩ := id ic
            refine va_castY hx hb hown (ht _ k_cl_C_151) (hE.2.2.2.2.2.2.2 _ k_ca_K_K) (va_recv hK hP rfl c9) d_C_first_33 ?_
            refine lv_aload_n hx hb d_C_first_36 rfl (lv_at hl 1 rfl) ?_
            refine va_get (D := xD G) (ci := 0) (C := R_C) (T := F_C) (N := 10) hx hb ht in_C hown hK hP 0 x1_ rfl 6 (by decide) (ht _ k_fl_C_36) (fun _ h9 => h9) rfl d_C_first_37 ?_
            refine x_calli (va_runV (As := [.ref wa_]) (rest := []) ⟨hx, hb, hml, hown, ht⟩ (c_holds l G A ws (gK_ i) wa_ y w ic iw) (cwV 1 ht (TW_V k_ml_C_153 k_im_K_holdsFor k_se_K_holdsFor k_in_K k_code_K_holdsFor) rfl rfl rfl hv_K_holdsFor ⟨Nat.le_of_ble_eq_true rfl, Nat.le_of_ble_eq_true rfl⟩) ⟨x_blind, va_recv hK hP rfl c9, x_pre hE hA hS hP hD⟩ rfl rfl hl.1 rfl (lv_room (Nat.le_of_ble_eq_true rfl)) d_C_first_40 ⟨Nat.le_of_ble_eq_true rfl, Nat.le_of_ble_eq_true rfl⟩) hS (fun r12 w11 H locs q10 hP hD hS => ?_)
            obtain ⟨rfl, ⟨rfl, hq⟩ | ⟨rfl, hq⟩⟩ := q10
            · refine x_if_ne hx hb 1 rfl (by omega) (tgt := 48) d_C_first_43 (by decide) (fun c13 => ?_) (fun c13 => ?_)
              · refine lv_iinc (v := nI (i + 1)) (lv' := [(1, .int (nI (i + 1))), (0, .ref o)]) hx hb d_C_first_48 hl (k := 0) rfl (n_inc _) (by decide) rfl (fun ls hl => ?_)
                refine lv_goto (tgt := 17) hx hb d_C_first_51 (by decide) ?_
                exact ih (i + 1) (by omega) H locs ls hP hS (fun i2 h2 => by rcases Nat.lt_succ_iff_lt_or_eq.mp h2 with h3 | rfl; exact hal i2 h3; rw [kAt_of hy]; exact hq) (lv_sub hl [0, 1] rfl)
              · exact False.elim (by omega)
            · refine x_if_ne hx hb 0 rfl (by omega) (tgt := 48) d_C_first_43 (by decide) (fun c14 => ?_) (fun c14 => ?_)
              · exact False.elim (by omega)
              · refine lv_iload_n hx hb d_C_first_46 rfl (lv_at hl 0 rfl) ?_
                refine vx_ret ?_
                exact x_iret hx hb hr hlocks hS hP hD (Nat.le_of_ble_eq_true rfl) (Nat.le_of_ble_eq_true rfl) d_C_first_47 (⟨hR, hm, i, by omega, hal, by rw [kAt_of hy]; exact hq, rfl⟩)
      exact loop wC 0 (by omega) H locs ls hP hS (fun _ h => absurd h (Nat.not_lt_zero _)) (lv_sub hl [0, 1] rfl)
    · exact False.elim (by omega)
  · refine x_if_ne hx hb 0 rfl (by omega) (tgt := 15) d_C_first_4 (by decide) (fun c15 => ?_) (fun c15 => ?_)
    · exact False.elim (by omega)
    · exact vx_throw0 (own := R_C) (cls := "java/lang/IllegalStateException") (names := ["java/lang/RuntimeException", "java/lang/Exception"]) hx hb hst hown (by decide) (by decide) (ht _ k_cl_C_62) (ht _ k_in_IllegalStateException) (x_hat ht hE.2.2.2.2.2.2.2 at_ISE) hg_ISE hE.2.2.2.2.2.1 hE.2.2.2.2.2.2.1 hS (hl.1.trans hml.symm) d_C_first_7 d_C_first_10 d_C_first_11 d_C_first_14 (fun x h => (hno x h).elim) (Nat.le_of_ble_eq_true rfl) (Nat.le_of_ble_eq_true rfl) (Nat.le_of_ble_eq_true rfl) (Nat.le_of_ble_eq_true rfl) hlocks (x_thrown hS hP hD (⟨hR, Or.inl ⟨rfl, hm⟩⟩)) hS.2.2 (Nat.le_of_ble_eq_true rfl) (Nat.le_of_ble_eq_true rfl)

set_option maxHeartbeats 4000000 in
set_option maxRecDepth 100000 in
theorem c_coef (l : Launch) (G : xG) (A : Nat → Prop) (ws : va_W) (hst : l.stackTraces = false) (o z u lv le lk : Nat) (V : List VV) (E : List EE) (K : List KK) (inp : Nat) (w d : Nat → Nat) (wV wC : Nat) (hR : CCs G ws o z u lv le lk V E K inp w d wV wC) (hI : okI V E K inp wV wC) (x1 x2 x3 : Int32) : vx_Met l y_C_coefficient (cw_C_coefficient :: TW) { frames := 13, cells := 40, slots := 2000, locals := 338 } (va_Pc [.ref o, .int x1, .int x2, .int x3] (x_P G A ws)) (qI G A (fun r w9 => CCs G w9 o z u lv le lk V E K inp w d wV wC ∧ ∃ a b v, a < K.length ∧ b < 3 ∧ v < 60 ∧ x1 = nI a ∧ x2 = nI b ∧ x3 = nI v ∧ r = nI (kS (kAt K a) b v))) (qX G A (fun Ex w9 => CCs G w9 o z u lv le lk V E K inp w d wV wC ∧ ((Ex = "java/util/NoSuchElementException" ∧ ¬ md K.length x1) ∨ (Ex = "java/lang/IllegalArgumentException" ∧ md K.length x1 ∧ ¬ (md 3 x2 ∧ md 60 x3))))) 40 2000 A := by
  refine vx_ofW (cc := b_C_coefficient) (maxL := 4) (ret := (some .int)) (by decide) rfl ?_
  intro p e s m args below meth c s₁ B hml hno hv
  obtain ⟨rfl, hE, hA, hP, hD⟩ := hv
  have hx := B.exec
  have hb := B.bytes
  have hr := B.returns
  have ht : ∀ w ∈ TW, w.before _ s = true := fun w h => atoms_spec (ws := cw_C_coefficient :: TW) B.pre w (List.mem_cons_of_mem _ h)
  have hown : s.vm.findClass R_C = some m.cls := findClass_of_methodNamed B.named
  have hlocks := B.notSynchronized
  have hK := hE.1
  have hS : va_S A s.heap s.heap [] := va_S.rf
  have hl := lv_entry ([.ref o, .int x1, .int x2, .int x3]) (n := 4) (Nat.le_of_ble_eq_true rfl)
  rw [lg_entry_eq]
  generalize (lg_sl ([.ref o, .int x1, .int x2, .int x3]) ++ List.replicate (4 - (lg_sl ([.ref o, .int x1, .int x2, .int x3])).length) Slot.unset).toArray = ls at hl ⊢
  have hl : lv_has ls 4 [(0, .ref o), (1, .int x1), (2, .int x2), (3, .int x3)] := hl
  obtain ⟨i1, i2, i3, i4, i5, i6, i7, i8, i9⟩ := id hI
  obtain ⟨wa_, da_, kV_, kE_, kK_, gV_, gE_, gK_, hX_⟩ := id hR
  obtain ⟨x1_, x2_, x3_, x4_, x5_, x6_, x7_, x8_, x9_, x10_, x11_, x12_, x13_⟩ := id hX_
  obtain ⟨mo_v_, ae_v_, li_v_, -⟩ := id x4_
  obtain ⟨mo_e_, ae_e_, li_e_, -⟩ := id x5_
  obtain ⟨mo_k_, ae_k_, li_k_, -⟩ := id x6_
  refine lv_iload_n hx hb d_C_coefficient_0 rfl (lv_at hl 1 rfl) ?_
  refine lv_if_lt (tgt := 15) hx hb d_C_coefficient_1 (by decide) (fun c1 => ?_) (fun c1 => ?_)
  · exact vx_throw0 (own := R_C) (cls := "java/util/NoSuchElementException") (names := ["java/lang/RuntimeException", "java/lang/Exception"]) hx hb hst hown (by decide) (by decide) (ht _ k_cl_C_101) (ht _ k_in_NoSuchElementException) (x_hat ht hE.2.2.2.2.2.2.2 at_NSE) hg_NSE hE.2.2.2.2.2.1 hE.2.2.2.2.2.2.1 hS (hl.1.trans hml.symm) d_C_coefficient_15 d_C_coefficient_18 d_C_coefficient_19 d_C_coefficient_22 (fun x h => (hno x h).elim) (Nat.le_of_ble_eq_true rfl) (Nat.le_of_ble_eq_true rfl) (Nat.le_of_ble_eq_true rfl) (Nat.le_of_ble_eq_true rfl) hlocks (x_thrown hS hP hD (⟨hR, Or.inl ⟨rfl, md_neg (by omega) c1⟩⟩)) hS.2.2 (Nat.le_of_ble_eq_true rfl) (Nat.le_of_ble_eq_true rfl)
  · obtain ⟨ja, ga0, rfl⟩ := nI_of c1
    refine lv_iload_n hx hb d_C_coefficient_4 rfl (lv_at hl 1 rfl) ?_
    refine lv_aload_n hx hb d_C_coefficient_5 rfl (lv_at hl 0 rfl) ?_
    refine va_get (D := xD G) (ci := 0) (C := R_C) (T := F_C) (N := 10) hx hb ht in_C hown hK hP 0 x1_ rfl 4 (by decide) (ht _ k_fl_C_33) (fun _ h9 => h9) rfl d_C_coefficient_6 ?_
    refine x_calli (va_runV (As := []) (rest := [.int (nI ja)]) ⟨hx, hb, hml, hown, ht⟩ (c_A_size l G A ws 7 kK_ lk K.length gK_ x6_) (cwV 0 ht (TW_V k_ml_C_78 k_im_A_size k_se_A_size k_in_A k_code_A_size) rfl rfl rfl hv_A_size ⟨Nat.le_of_ble_eq_true rfl, Nat.le_of_ble_eq_true rfl⟩) ⟨x_blind, va_recv hK hP rfl li_k_, x_pre hE hA hS hP hD⟩ rfl rfl hl.1 rfl (lv_room (Nat.le_of_ble_eq_true rfl)) d_C_coefficient_9 ⟨Nat.le_of_ble_eq_true rfl, Nat.le_of_ble_eq_true rfl⟩) hS (fun r4 w3 H locs q2 hP hD hS => ?_)
    obtain ⟨rfl, rfl⟩ := q2
    refine x_lt hx hb ja K.length rfl rfl (by omega) (by omega) (tgt := 23) d_C_coefficient_12 (by decide) (fun c5 => ?_) (fun c5 => ?_)
    · have hm : md K.length (nI ja) := ⟨ja, c5, rfl⟩
      refine lv_iload_n hx hb d_C_coefficient_23 rfl (lv_at hl 2 rfl) ?_
      refine lv_if_lt (tgt := 39) hx hb d_C_coefficient_24 (by decide) (fun c6 => ?_) (fun c6 => ?_)
      · exact vx_throw0 (own := R_C) (cls := "java/lang/IllegalArgumentException") (names := ["java/lang/RuntimeException", "java/lang/Exception"]) hx hb hst hown (by decide) (by decide) (ht _ k_cl_C_56) (ht _ k_in_IllegalArgumentException) (x_hat ht hE.2.2.2.2.2.2.2 at_IAE) hg_IAE hE.2.2.2.2.2.1 hE.2.2.2.2.2.2.1 hS (hl.1.trans hml.symm) d_C_coefficient_39 d_C_coefficient_42 d_C_coefficient_43 d_C_coefficient_46 (fun x h => (hno x h).elim) (Nat.le_of_ble_eq_true rfl) (Nat.le_of_ble_eq_true rfl) (Nat.le_of_ble_eq_true rfl) (Nat.le_of_ble_eq_true rfl) hlocks (x_thrown hS hP hD (⟨hR, Or.inr ⟨rfl, hm, fun q => md_neg (by decide) c6 q.1⟩⟩)) hS.2.2 (Nat.le_of_ble_eq_true rfl) (Nat.le_of_ble_eq_true rfl)
      · obtain ⟨jb, gb0, rfl⟩ := nI_of c6
        refine lv_iload_n hx hb d_C_coefficient_27 rfl (lv_at hl 2 rfl) ?_
        refine lv_iconst (v := (nI 2)) hx hb d_C_coefficient_28 (by decide) ?_
        refine x_gt hx hb jb 2 rfl rfl (by omega) (by omega) (tgt := 39) d_C_coefficient_29 (by decide) (fun c7 => ?_) (fun c7 => ?_)
        · exact vx_throw0 (own := R_C) (cls := "java/lang/IllegalArgumentException") (names := ["java/lang/RuntimeException", "java/lang/Exception"]) hx hb hst hown (by decide) (by decide) (ht _ k_cl_C_56) (ht _ k_in_IllegalArgumentException) (x_hat ht hE.2.2.2.2.2.2.2 at_IAE) hg_IAE hE.2.2.2.2.2.1 hE.2.2.2.2.2.2.1 hS (hl.1.trans hml.symm) d_C_coefficient_39 d_C_coefficient_42 d_C_coefficient_43 d_C_coefficient_46 (fun x h => (hno x h).elim) (Nat.le_of_ble_eq_true rfl) (Nat.le_of_ble_eq_true rfl) (Nat.le_of_ble_eq_true rfl) (Nat.le_of_ble_eq_true rfl) hlocks (x_thrown hS hP hD (⟨hR, Or.inr ⟨rfl, hm, fun q => absurd ((md_iff (by decide) gb0).mp q.1) (by omega)⟩⟩)) hS.2.2 (Nat.le_of_ble_eq_true rfl) (Nat.le_of_ble_eq_true rfl)
        · refine lv_iload_n hx hb d_C_coefficient_32 rfl (lv_at hl 3 rfl) ?_
          refine x_calli (va_runS (As := [.int x3]) (rest := []) ⟨hx, hb, hml, hown, ht⟩ (c_isVar l G A ws x3) (va_cwS 1 ht (TW_S k_ml_C_157 k_st_C_isVariableNumber k_in_C k_code_C_isVariableNumber) rfl rfl rfl hv_C_isVariableNumber.2 ⟨Nat.le_of_ble_eq_true rfl, Nat.le_of_ble_eq_true rfl⟩) ⟨x_blind, x_pre hE hA hS hP hD⟩ rfl rfl hl.1 rfl (lv_room (Nat.le_of_ble_eq_true rfl)) d_C_coefficient_33 ⟨Nat.le_of_ble_eq_true rfl, Nat.le_of_ble_eq_true rfl⟩) hS (fun r10 w9 H locs q8 hP hD hS => ?_)
          obtain ⟨rfl, ⟨rfl, hm3⟩ | ⟨rfl, hm3⟩⟩ := q8
          · refine x_if_ne hx hb 1 rfl (by omega) (tgt := 47) d_C_coefficient_36 (by decide) (fun c11 => ?_) (fun c11 => ?_)
            · obtain ⟨jc, gc, rfl⟩ := id hm3
              refine lv_aload_n hx hb d_C_coefficient_47 rfl (lv_at hl 0 rfl) ?_
              refine va_get (D := xD G) (ci := 0) (C := R_C) (T := F_C) (N := 10) hx hb ht in_C hown hK hP 0 x1_ rfl 4 (by decide) (ht _ k_fl_C_33) (fun _ h9 => h9) rfl d_C_coefficient_48 ?_
              refine lv_iload_n hx hb d_C_coefficient_51 rfl (lv_at hl 1 rfl) ?_
              refine x_callr (va_runV (As := [.int (nI ja)]) (rest := []) ⟨hx, hb, hml, hown, ht⟩ (c_A_get l G A ws 7 kK_ lk K.length ja gK_ x6_ c5 (by omega)) (cwV 1 ht (TW_V k_ml_C_104 k_im_A_get k_se_A_get k_in_A k_code_A_get) rfl rfl rfl hv_A_get ⟨Nat.le_of_ble_eq_true rfl, Nat.le_of_ble_eq_true rfl⟩) ⟨x_blind, va_recv hK hP rfl li_k_, x_pre hE hA hS hP hD⟩ rfl rfl hl.1 rfl (lv_room (Nat.le_of_ble_eq_true rfl)) d_C_coefficient_52 ⟨Nat.le_of_ble_eq_true rfl, Nat.le_of_ble_eq_true rfl⟩) hS (fun r14 w13 H locs q12 hP hD hS => ?_)
              obtain ⟨rfl, rfl⟩ := q12
              obtain ⟨y, hy⟩ := V_get c5
              have ic := x9_ ja y hy
              obtain ⟨k9, xa9, ya9, za9, c9, -⟩ := id ic
              refine va_castY hx hb hown (ht _ k_cl_C_151) (hE.2.2.2.2.2.2.2 _ k_ca_K_K) (va_recv hK hP rfl c9) d_C_coefficient_55 ?_
              refine lv_iload_n hx hb d_C_coefficient_58 rfl (lv_at hl 2 rfl) ?_
              refine x_callr (va_runV (As := [.int (nI jb)]) (rest := []) ⟨hx, hb, hml, hown, ht⟩ (c_sumAt l G A ws (gK_ ja) jb y ic (by omega)) (cwV 1 ht (TW_V k_ml_C_160 k_im_K_sumAt k_se_K_sumAt k_in_K k_code_K_sumAt) rfl rfl rfl hv_K_sumAt ⟨Nat.le_of_ble_eq_true rfl, Nat.le_of_ble_eq_true rfl⟩) ⟨x_blind, va_recv hK hP rfl c9, x_pre hE hA hS hP hD⟩ rfl rfl hl.1 rfl (lv_room (Nat.le_of_ble_eq_true rfl)) d_C_coefficient_59 ⟨Nat.le_of_ble_eq_true rfl, Nat.le_of_ble_eq_true rfl⟩) hS (fun r17 w16 H locs q15 hP hD hS => ?_)
              obtain ⟨rfl, s1⟩ := q15
              obtain ⟨kA, jA, cA, fA, pA, qA, nA, oA, eA, bA⟩ := id s1
              refine va_get (D := xD G) (ci := 1) (C := R_S) (T := F_S) (N := 1) hx hb ht in_S hown hK hP kA pA rfl 0 (by decide) (ht _ k_fl_C_163) (fun _ h9 => h9) rfl d_C_coefficient_62 ?_
              refine lv_iload_n hx hb d_C_coefficient_65 rfl (lv_at hl 3 rfl) ?_
              refine x_iald hx hb hK hP qA jc rfl (by omega) (by omega) d_C_coefficient_66 ?_
              refine x_top (nI (kS y jb jc)) (eA jc gc) ?_
              refine vx_ret ?_
              exact x_iret hx hb hr hlocks hS hP hD (Nat.le_of_ble_eq_true rfl) (Nat.le_of_ble_eq_true rfl) d_C_coefficient_67 (⟨hR, ja, jb, jc, c5, by omega, gc, rfl, rfl, rfl, by rw [kAt_of hy]⟩)
            · exact False.elim (by omega)
          · refine x_if_ne hx hb 0 rfl (by omega) (tgt := 47) d_C_coefficient_36 (by decide) (fun c18 => ?_) (fun c18 => ?_)
            · exact False.elim (by omega)
            · exact vx_throw0 (own := R_C) (cls := "java/lang/IllegalArgumentException") (names := ["java/lang/RuntimeException", "java/lang/Exception"]) hx hb hst hown (by decide) (by decide) (ht _ k_cl_C_56) (ht _ k_in_IllegalArgumentException) (x_hat ht hE.2.2.2.2.2.2.2 at_IAE) hg_IAE hE.2.2.2.2.2.1 hE.2.2.2.2.2.2.1 hS (hl.1.trans hml.symm) d_C_coefficient_39 d_C_coefficient_42 d_C_coefficient_43 d_C_coefficient_46 (fun x h => (hno x h).elim) (Nat.le_of_ble_eq_true rfl) (Nat.le_of_ble_eq_true rfl) (Nat.le_of_ble_eq_true rfl) (Nat.le_of_ble_eq_true rfl) hlocks (x_thrown hS hP hD (⟨hR, Or.inr ⟨rfl, hm, fun q => hm3 q.2⟩⟩)) hS.2.2 (Nat.le_of_ble_eq_true rfl) (Nat.le_of_ble_eq_true rfl)
    · exact vx_throw0 (own := R_C) (cls := "java/util/NoSuchElementException") (names := ["java/lang/RuntimeException", "java/lang/Exception"]) hx hb hst hown (by decide) (by decide) (ht _ k_cl_C_101) (ht _ k_in_NoSuchElementException) (x_hat ht hE.2.2.2.2.2.2.2 at_NSE) hg_NSE hE.2.2.2.2.2.1 hE.2.2.2.2.2.2.1 hS (hl.1.trans hml.symm) d_C_coefficient_15 d_C_coefficient_18 d_C_coefficient_19 d_C_coefficient_22 (fun x h => (hno x h).elim) (Nat.le_of_ble_eq_true rfl) (Nat.le_of_ble_eq_true rfl) (Nat.le_of_ble_eq_true rfl) (Nat.le_of_ble_eq_true rfl) hlocks (x_thrown hS hP hD (⟨hR, Or.inl ⟨rfl, fun q => absurd ((md_iff (by omega) ga0).mp q) (by omega)⟩⟩)) hS.2.2 (Nat.le_of_ble_eq_true rfl) (Nat.le_of_ble_eq_true rfl)

set_option maxHeartbeats 4000000 in
set_option maxRecDepth 100000 in
theorem c_uses (l : Launch) (G : xG) (A : Nat → Prop) (ws : va_W) (hst : l.stackTraces = false) (o z u lv le lk : Nat) (V : List VV) (E : List EE) (K : List KK) (inp : Nat) (w d : Nat → Nat) (wV wC : Nat) (hR : CCs G ws o z u lv le lk V E K inp w d wV wC) (hI : okI V E K inp wV wC) (x1 : Int32) : vx_Met l y_C_uses (cw_C_uses :: TW) { frames := 13, cells := 40, slots := 2000, locals := 338 } (va_Pc [.ref o, .int x1] (x_P G A ws)) (qI G A (fun r w9 => CCs G w9 o z u lv le lk V E K inp w d wV wC ∧ ∃ v, v < 60 ∧ x1 = nI v ∧ r = nI (usN K v K.length))) (qX G A (fun Ex w9 => CCs G w9 o z u lv le lk V E K inp w d wV wC ∧ Ex = "java/lang/IllegalArgumentException" ∧ ¬ md 60 x1)) 40 2000 A := by
  refine vx_ofW (cc := b_C_uses) (maxL := 4) (ret := (some .int)) (by decide) rfl ?_
  intro p e s m args below meth c s₁ B hml hno hv
  obtain ⟨rfl, hE, hA, hP, hD⟩ := hv
  have hx := B.exec
  have hb := B.bytes
  have hr := B.returns
  have ht : ∀ w ∈ TW, w.before _ s = true := fun w h => atoms_spec (ws := cw_C_uses :: TW) B.pre w (List.mem_cons_of_mem _ h)
  have hown : s.vm.findClass R_C = some m.cls := findClass_of_methodNamed B.named
  have hlocks := B.notSynchronized
  have hK := hE.1
  have hS : va_S A s.heap s.heap [] := va_S.rf
  have hl := lv_entry ([.ref o, .int x1]) (n := 4) (Nat.le_of_ble_eq_true rfl)
  rw [lg_entry_eq]
  generalize (lg_sl ([.ref o, .int x1]) ++ List.replicate (4 - (lg_sl ([.ref o, .int x1])).length) Slot.unset).toArray = ls at hl ⊢
  have hl : lv_has ls 4 [(0, .ref o), (1, .int x1)] := hl
  obtain ⟨i1, i2, i3, i4, i5, i6, i7, i8, i9⟩ := id hI
  obtain ⟨wa_, da_, kV_, kE_, kK_, gV_, gE_, gK_, hX_⟩ := id hR
  obtain ⟨x1_, x2_, x3_, x4_, x5_, x6_, x7_, x8_, x9_, x10_, x11_, x12_, x13_⟩ := id hX_
  obtain ⟨mo_v_, ae_v_, li_v_, -⟩ := id x4_
  obtain ⟨mo_e_, ae_e_, li_e_, -⟩ := id x5_
  obtain ⟨mo_k_, ae_k_, li_k_, -⟩ := id x6_
  refine lv_iload_n hx hb d_C_uses_0 rfl (lv_at hl 1 rfl) ?_
  refine x_calli (va_runS (As := [.int x1]) (rest := []) ⟨hx, hb, hml, hown, ht⟩ (c_isVar l G A ws x1) (va_cwS 1 ht (TW_S k_ml_C_157 k_st_C_isVariableNumber k_in_C k_code_C_isVariableNumber) rfl rfl rfl hv_C_isVariableNumber.2 ⟨Nat.le_of_ble_eq_true rfl, Nat.le_of_ble_eq_true rfl⟩) ⟨x_blind, x_pre hE hA hS hP hD⟩ rfl rfl hl.1 rfl (lv_room (Nat.le_of_ble_eq_true rfl)) d_C_uses_1 ⟨Nat.le_of_ble_eq_true rfl, Nat.le_of_ble_eq_true rfl⟩) hS (fun r3 w2 H locs q1 hP hD hS => ?_)
  obtain ⟨rfl, ⟨rfl, hm⟩ | ⟨rfl, hm⟩⟩ := q1
  · refine x_if_ne hx hb 1 rfl (by omega) (tgt := 15) d_C_uses_4 (by decide) (fun c4 => ?_) (fun c4 => ?_)
    · obtain ⟨jv, gj, rfl⟩ := id hm
      refine lv_iconst (v := (nI 0)) hx hb d_C_uses_15 (by decide) ?_
      refine lv_istore_n (lv' := [(2, .int (nI 0)), (0, .ref o), (1, .int (nI jv))]) hx hb d_C_uses_16 rfl hl (by decide) rfl (fun ls hl => ?_)
      refine lv_iconst (v := (nI 0)) hx hb d_C_uses_17 (by decide) ?_
      refine lv_istore_n (lv' := [(3, .int (nI 0)), (2, .int (nI 0)), (0, .ref o), (1, .int (nI jv))]) hx hb d_C_uses_18 rfl hl (by decide) rfl (fun ls hl => ?_)
      have loop : ∀ (n i : Nat), i + n = K.length → ∀ (H : Heap) (locs : List Loc) (ls : Array Slot), va_P (xD G) CL ws H → va_S A s.heap H locs → lv_has ls 4 [(3, .int (nI i)), (2, .int (nI (usN K jv i))), (1, .int (nI jv)), (0, .ref o)] → W p l e (headSpec (cw_C_uses :: TW) { frames := 13, cells := 40, slots := 2000, locals := 338 }).room s m ([.ref o, .int (nI jv)] : List Value).toArray below meth c H locs 0 0 (vx_MQ below (qI G A (fun r w9 => CCs G w9 o z u lv le lk V E K inp w d wV wC ∧ ∃ v, v < 60 ∧ (nI jv) = nI v ∧ r = nI (usN K v K.length))) (qX G A (fun Ex w9 => CCs G w9 o z u lv le lk V E K inp w d wV wC ∧ Ex = "java/lang/IllegalArgumentException" ∧ ¬ md 60 (nI jv))) ([.ref o, .int (nI jv)] : List Value).toArray s 40 2000 A) (F0 m 19 ls []) := by
        intro n
        induction n with
        | zero =>
          intro i hi H locs ls hP hS hl
          refine lv_iload_n hx hb d_C_uses_19 rfl (lv_at hl 0 rfl) ?_
          refine lv_aload_n hx hb d_C_uses_20 rfl (lv_at hl 3 rfl) ?_
          refine va_get (D := xD G) (ci := 0) (C := R_C) (T := F_C) (N := 10) hx hb ht in_C hown hK hP 0 x1_ rfl 4 (by decide) (ht _ k_fl_C_33) (fun _ h9 => h9) rfl d_C_uses_21 ?_
          refine x_calli (va_runV (As := []) (rest := [.int (nI i)]) ⟨hx, hb, hml, hown, ht⟩ (c_A_size l G A ws 7 kK_ lk K.length gK_ x6_) (cwV 0 ht (TW_V k_ml_C_78 k_im_A_size k_se_A_size k_in_A k_code_A_size) rfl rfl rfl hv_A_size ⟨Nat.le_of_ble_eq_true rfl, Nat.le_of_ble_eq_true rfl⟩) ⟨x_blind, va_recv hK hP rfl li_k_, x_pre hE hA hS hP hD⟩ rfl rfl hl.1 rfl (lv_room (Nat.le_of_ble_eq_true rfl)) d_C_uses_24 ⟨Nat.le_of_ble_eq_true rfl, Nat.le_of_ble_eq_true rfl⟩) hS (fun r7 w6 H locs q5 hP hD hS => ?_)
          obtain ⟨rfl, rfl⟩ := q5
          refine x_ge hx hb i K.length rfl rfl (by omega) (by omega) (tgt := 57) d_C_uses_27 (by decide) (fun c8 => ?_) (fun c8 => ?_)
          · refine lv_iload_n hx hb d_C_uses_57 rfl (lv_at hl 1 rfl) ?_
            refine vx_ret ?_
            exact x_iret hx hb hr hlocks hS hP hD (Nat.le_of_ble_eq_true rfl) (Nat.le_of_ble_eq_true rfl) d_C_uses_58 (⟨hR, jv, gj, rfl, by rw [show i = K.length by omega]⟩)
          · exact False.elim (by omega)
        | succ n ih =>
          intro i hi H locs ls hP hS hl
          refine lv_iload_n hx hb d_C_uses_19 rfl (lv_at hl 0 rfl) ?_
          refine lv_aload_n hx hb d_C_uses_20 rfl (lv_at hl 3 rfl) ?_
          refine va_get (D := xD G) (ci := 0) (C := R_C) (T := F_C) (N := 10) hx hb ht in_C hown hK hP 0 x1_ rfl 4 (by decide) (ht _ k_fl_C_33) (fun _ h9 => h9) rfl d_C_uses_21 ?_
          refine x_calli (va_runV (As := []) (rest := [.int (nI i)]) ⟨hx, hb, hml, hown, ht⟩ (c_A_size l G A ws 7 kK_ lk K.length gK_ x6_) (cwV 0 ht (TW_V k_ml_C_78 k_im_A_size k_se_A_size k_in_A k_code_A_size) rfl rfl rfl hv_A_size ⟨Nat.le_of_ble_eq_true rfl, Nat.le_of_ble_eq_true rfl⟩) ⟨x_blind, va_recv hK hP rfl li_k_, x_pre hE hA hS hP hD⟩ rfl rfl hl.1 rfl (lv_room (Nat.le_of_ble_eq_true rfl)) d_C_uses_24 ⟨Nat.le_of_ble_eq_true rfl, Nat.le_of_ble_eq_true rfl⟩) hS (fun r11 w10 H locs q9 hP hD hS => ?_)
          obtain ⟨rfl, rfl⟩ := q9
          refine x_ge hx hb i K.length rfl rfl (by omega) (by omega) (tgt := 57) d_C_uses_27 (by decide) (fun c12 => ?_) (fun c12 => ?_)
          · exact False.elim (by omega)
          · obtain ⟨y, hy⟩ := V_get c12
            have ul := usN_le K jv i
            refine lv_aload_n hx hb d_C_uses_30 rfl (lv_at hl 3 rfl) ?_
            refine va_get (D := xD G) (ci := 0) (C := R_C) (T := F_C) (N := 10) hx hb ht in_C hown hK hP 0 x1_ rfl 4 (by decide) (ht _ k_fl_C_33) (fun _ h9 => h9) rfl d_C_uses_31 ?_
            refine lv_iload_n hx hb d_C_uses_34 rfl (lv_at hl 0 rfl) ?_
            refine x_callr (va_runV (As := [.int (nI i)]) (rest := []) ⟨hx, hb, hml, hown, ht⟩ (c_A_get l G A ws 7 kK_ lk K.length i gK_ x6_ c12 (by omega)) (cwV 1 ht (TW_V k_ml_C_104 k_im_A_get k_se_A_get k_in_A k_code_A_get) rfl rfl rfl hv_A_get ⟨Nat.le_of_ble_eq_true rfl, Nat.le_of_ble_eq_true rfl⟩) ⟨x_blind, va_recv hK hP rfl li_k_, x_pre hE hA hS hP hD⟩ rfl rfl hl.1 rfl (lv_room (Nat.le_of_ble_eq_true rfl)) d_C_uses_35 ⟨Nat.le_of_ble_eq_true rfl, Nat.le_of_ble_eq_true rfl⟩) hS (fun r15 w14 H locs q13 hP hD hS => ?_)
            obtain ⟨rfl, rfl⟩ := q13
            have ic := x9_ i y hy
            obtain ⟨k9, xa9, ya9, za9, c9, -⟩ := id ic
            refine va_castY hx hb hown (ht _ k_cl_C_151) (hE.2.2.2.2.2.2.2 _ k_ca_K_K) (va_recv hK hP rfl c9) d_C_uses_38 ?_
            refine lv_iload_n hx hb d_C_uses_41 rfl (lv_at hl 2 rfl) ?_
            refine x_calli (va_runV (As := [.int (nI jv)]) (rest := []) ⟨hx, hb, hml, hown, ht⟩ (c_hasVar l G A ws (gK_ i) jv y ic gj) (cwV 1 ht (TW_V k_ml_C_169 k_im_K_hasVariable k_se_K_hasVariable k_in_K k_code_K_hasVariable) rfl rfl rfl hv_K_hasVariable ⟨Nat.le_of_ble_eq_true rfl, Nat.le_of_ble_eq_true rfl⟩) ⟨x_blind, va_recv hK hP rfl c9, x_pre hE hA hS hP hD⟩ rfl rfl hl.1 rfl (lv_room (Nat.le_of_ble_eq_true rfl)) d_C_uses_42 ⟨Nat.le_of_ble_eq_true rfl, Nat.le_of_ble_eq_true rfl⟩) hS (fun r18 w17 H locs q16 hP hD hS => ?_)
            obtain ⟨rfl, ⟨rfl, hq⟩ | ⟨rfl, hq⟩⟩ := q16
            · refine x_if_eq hx hb 1 rfl (by omega) (tgt := 51) d_C_uses_45 (by decide) (fun c19 => ?_) (fun c19 => ?_)
              · exact False.elim (by omega)
              · refine lv_iinc (v := nI (usN K jv i + 1)) (lv' := [(2, .int (nI (usN K jv i + 1))), (3, .int (nI i)), (1, .int (nI jv)), (0, .ref o)]) hx hb d_C_uses_48 hl (k := 1) rfl (n_inc _) (by decide) rfl (fun ls hl => ?_)
                refine lv_iinc (v := nI (i + 1)) (lv' := [(3, .int (nI (i + 1))), (2, .int (nI (usN K jv i + 1))), (1, .int (nI jv)), (0, .ref o)]) hx hb d_C_uses_51 hl (k := 1) rfl (n_inc _) (by decide) rfl (fun ls hl => ?_)
                refine lv_goto (tgt := 19) hx hb d_C_uses_54 (by decide) ?_
                have e9 : usN K jv (i + 1) = usN K jv i + 1 := by show usN K jv i + _ = _; rw [kAt_of hy, if_pos hq]
                exact ih (i + 1) (by omega) H locs ls hP hS (by rw [e9]; exact (lv_sub hl [0, 1, 2, 3] rfl))
            · refine x_if_eq hx hb 0 rfl (by omega) (tgt := 51) d_C_uses_45 (by decide) (fun c20 => ?_) (fun c20 => ?_)
              · refine lv_iinc (v := nI (i + 1)) (lv' := [(3, .int (nI (i + 1))), (2, .int (nI (usN K jv i))), (1, .int (nI jv)), (0, .ref o)]) hx hb d_C_uses_51 hl (k := 0) rfl (n_inc _) (by decide) rfl (fun ls hl => ?_)
                refine lv_goto (tgt := 19) hx hb d_C_uses_54 (by decide) ?_
                have e9 : usN K jv (i + 1) = usN K jv i + 0 := by show usN K jv i + _ = _; rw [kAt_of hy, if_neg hq]
                exact ih (i + 1) (by omega) H locs ls hP hS (by rw [e9]; exact (lv_sub hl [0, 1, 2, 3] rfl))
              · exact False.elim (by omega)
      exact loop K.length 0 (by omega) H locs ls hP hS (lv_sub hl [0, 1, 3, 2] rfl)
    · exact False.elim (by omega)
  · refine x_if_ne hx hb 0 rfl (by omega) (tgt := 15) d_C_uses_4 (by decide) (fun c21 => ?_) (fun c21 => ?_)
    · exact False.elim (by omega)
    · exact vx_throw0 (own := R_C) (cls := "java/lang/IllegalArgumentException") (names := ["java/lang/RuntimeException", "java/lang/Exception"]) hx hb hst hown (by decide) (by decide) (ht _ k_cl_C_56) (ht _ k_in_IllegalArgumentException) (x_hat ht hE.2.2.2.2.2.2.2 at_IAE) hg_IAE hE.2.2.2.2.2.1 hE.2.2.2.2.2.2.1 hS (hl.1.trans hml.symm) d_C_uses_7 d_C_uses_10 d_C_uses_11 d_C_uses_14 (fun x h => (hno x h).elim) (Nat.le_of_ble_eq_true rfl) (Nat.le_of_ble_eq_true rfl) (Nat.le_of_ble_eq_true rfl) (Nat.le_of_ble_eq_true rfl) hlocks (x_thrown hS hP hD (⟨hR, rfl, hm⟩)) hS.2.2 (Nat.le_of_ble_eq_true rfl) (Nat.le_of_ble_eq_true rfl)

set_option maxHeartbeats 4000000 in
set_option maxRecDepth 100000 in
theorem c_count (l : Launch) (G : xG) (A : Nat → Prop) (ws : va_W) (hst : l.stackTraces = false) (o z u lv le lk : Nat) (V : List VV) (E : List EE) (K : List KK) (inp : Nat) (w d : Nat → Nat) (wV wC : Nat) (hR : CCs G ws o z u lv le lk V E K inp w d wV wC) (hI : okI V E K inp wV wC) (x1 : Int32) : vx_Met l y_C_count (cw_C_count :: TW) { frames := 13, cells := 40, slots := 2000, locals := 338 } (va_Pc [.ref o, .int x1] (x_P G A ws)) (qI G A (fun r w9 => CCs G w9 o z u lv le lk V E K inp w d wV wC ∧ ∃ k, k < 6 ∧ x1 = nI k ∧ r = nI (cnt k V E K inp wV))) (qX G A (fun Ex w9 => CCs G w9 o z u lv le lk V E K inp w d wV wC ∧ Ex = "java/lang/IllegalArgumentException" ∧ ¬ md 6 x1)) 40 2000 A := by
  refine vx_ofW (cc := b_C_count) (maxL := 2) (ret := (some .int)) (by decide) rfl ?_
  intro p e s m args below meth c s₁ B hml hno hv
  obtain ⟨rfl, hE, hA, hP, hD⟩ := hv
  have hx := B.exec
  have hb := B.bytes
  have hr := B.returns
  have ht : ∀ w ∈ TW, w.before _ s = true := fun w h => atoms_spec (ws := cw_C_count :: TW) B.pre w (List.mem_cons_of_mem _ h)
  have hown : s.vm.findClass R_C = some m.cls := findClass_of_methodNamed B.named
  have hlocks := B.notSynchronized
  have hK := hE.1
  have hS : va_S A s.heap s.heap [] := va_S.rf
  have hl := lv_entry ([.ref o, .int x1]) (n := 2) (Nat.le_of_ble_eq_true rfl)
  rw [lg_entry_eq]
  generalize (lg_sl ([.ref o, .int x1]) ++ List.replicate (2 - (lg_sl ([.ref o, .int x1])).length) Slot.unset).toArray = ls at hl ⊢
  have hl : lv_has ls 2 [(0, .ref o), (1, .int x1)] := hl
  obtain ⟨i1, i2, i3, i4, i5, i6, i7, i8, i9⟩ := id hI
  obtain ⟨wa_, da_, kV_, kE_, kK_, gV_, gE_, gK_, hX_⟩ := id hR
  obtain ⟨x1_, x2_, x3_, x4_, x5_, x6_, x7_, x8_, x9_, x10_, x11_, x12_, x13_⟩ := id hX_
  obtain ⟨mo_v_, ae_v_, li_v_, -⟩ := id x4_
  obtain ⟨mo_e_, ae_e_, li_e_, -⟩ := id x5_
  obtain ⟨mo_k_, ae_k_, li_k_, -⟩ := id x6_
  by_cases hm : md 6 x1
  · obtain ⟨k, hk, rfl⟩ := id hm
    have hk9 : k = 0 ∨ k = 1 ∨ k = 2 ∨ k = 3 ∨ k = 4 ∨ k = 5 := by omega
    rcases hk9 with rfl | rfl | rfl | rfl | rfl | rfl
    · refine lv_iload_n hx hb d_C_count_0 rfl (lv_at hl 1 rfl) ?_
      refine lv_tableIn (off := 39) (tgt := 40) hx hb d_C_count_1 (by decide) (by decide) (by decide) (by decide) ?_
      refine lv_aload_n hx hb d_C_count_40 rfl (lv_at hl 0 rfl) ?_
      refine va_get (D := xD G) (ci := 0) (C := R_C) (T := F_C) (N := 10) hx hb ht in_C hown hK hP 0 x1_ rfl 3 (by decide) (ht _ k_fl_C_30) (fun _ h9 => h9) rfl d_C_count_41 ?_
      refine x_calli (va_runV (As := []) (rest := []) ⟨hx, hb, hml, hown, ht⟩ (c_A_size l G A ws 6 kE_ le E.length gE_ x5_) (cwV 0 ht (TW_V k_ml_C_78 k_im_A_size k_se_A_size k_in_A k_code_A_size) rfl rfl rfl hv_A_size ⟨Nat.le_of_ble_eq_true rfl, Nat.le_of_ble_eq_true rfl⟩) ⟨x_blind, va_recv hK hP rfl li_e_, x_pre hE hA hS hP hD⟩ rfl rfl hl.1 rfl (lv_room (Nat.le_of_ble_eq_true rfl)) d_C_count_44 ⟨Nat.le_of_ble_eq_true rfl, Nat.le_of_ble_eq_true rfl⟩) hS (fun r3 w2 H locs q1 hP hD hS => ?_)
      obtain ⟨rfl, rfl⟩ := q1
      refine vx_ret ?_
      exact x_iret hx hb hr hlocks hS hP hD (Nat.le_of_ble_eq_true rfl) (Nat.le_of_ble_eq_true rfl) d_C_count_47 (⟨hR, 0, hk, rfl, rfl⟩)
    · refine lv_iload_n hx hb d_C_count_0 rfl (lv_at hl 1 rfl) ?_
      refine lv_tableIn (off := 47) (tgt := 48) hx hb d_C_count_1 (by decide) (by decide) (by decide) (by decide) ?_
      refine lv_aload_n hx hb d_C_count_48 rfl (lv_at hl 0 rfl) ?_
      refine va_get (D := xD G) (ci := 0) (C := R_C) (T := F_C) (N := 10) hx hb ht in_C hown hK hP 0 x1_ rfl 2 (by decide) (ht _ k_fl_C_26) (fun _ h9 => h9) rfl d_C_count_49 ?_
      refine x_calli (va_runV (As := []) (rest := []) ⟨hx, hb, hml, hown, ht⟩ (c_A_size l G A ws 5 kV_ lv V.length gV_ x4_) (cwV 0 ht (TW_V k_ml_C_78 k_im_A_size k_se_A_size k_in_A k_code_A_size) rfl rfl rfl hv_A_size ⟨Nat.le_of_ble_eq_true rfl, Nat.le_of_ble_eq_true rfl⟩) ⟨x_blind, va_recv hK hP rfl li_v_, x_pre hE hA hS hP hD⟩ rfl rfl hl.1 rfl (lv_room (Nat.le_of_ble_eq_true rfl)) d_C_count_52 ⟨Nat.le_of_ble_eq_true rfl, Nat.le_of_ble_eq_true rfl⟩) hS (fun r6 w5 H locs q4 hP hD hS => ?_)
      obtain ⟨rfl, rfl⟩ := q4
      refine vx_ret ?_
      exact x_iret hx hb hr hlocks hS hP hD (Nat.le_of_ble_eq_true rfl) (Nat.le_of_ble_eq_true rfl) d_C_count_55 (⟨hR, 1, hk, rfl, rfl⟩)
    · refine lv_iload_n hx hb d_C_count_0 rfl (lv_at hl 1 rfl) ?_
      refine lv_tableIn (off := 55) (tgt := 56) hx hb d_C_count_1 (by decide) (by decide) (by decide) (by decide) ?_
      refine lv_aload_n hx hb d_C_count_56 rfl (lv_at hl 0 rfl) ?_
      refine va_get (D := xD G) (ci := 0) (C := R_C) (T := F_C) (N := 10) hx hb ht in_C hown hK hP 0 x1_ rfl 4 (by decide) (ht _ k_fl_C_33) (fun _ h9 => h9) rfl d_C_count_57 ?_
      refine x_calli (va_runV (As := []) (rest := []) ⟨hx, hb, hml, hown, ht⟩ (c_A_size l G A ws 7 kK_ lk K.length gK_ x6_) (cwV 0 ht (TW_V k_ml_C_78 k_im_A_size k_se_A_size k_in_A k_code_A_size) rfl rfl rfl hv_A_size ⟨Nat.le_of_ble_eq_true rfl, Nat.le_of_ble_eq_true rfl⟩) ⟨x_blind, va_recv hK hP rfl li_k_, x_pre hE hA hS hP hD⟩ rfl rfl hl.1 rfl (lv_room (Nat.le_of_ble_eq_true rfl)) d_C_count_60 ⟨Nat.le_of_ble_eq_true rfl, Nat.le_of_ble_eq_true rfl⟩) hS (fun r9 w8 H locs q7 hP hD hS => ?_)
      obtain ⟨rfl, rfl⟩ := q7
      refine vx_ret ?_
      exact x_iret hx hb hr hlocks hS hP hD (Nat.le_of_ble_eq_true rfl) (Nat.le_of_ble_eq_true rfl) d_C_count_63 (⟨hR, 2, hk, rfl, rfl⟩)
    · refine lv_iload_n hx hb d_C_count_0 rfl (lv_at hl 1 rfl) ?_
      refine lv_tableIn (off := 63) (tgt := 64) hx hb d_C_count_1 (by decide) (by decide) (by decide) (by decide) ?_
      refine lv_aload_n hx hb d_C_count_64 rfl (lv_at hl 0 rfl) ?_
      refine va_get (D := xD G) (ci := 0) (C := R_C) (T := F_C) (N := 10) hx hb ht in_C hown hK hP 0 x1_ rfl 5 (by decide) (ht _ k_fl_C_172) (fun _ h9 => h9) rfl d_C_count_65 ?_
      refine vx_ret ?_
      exact x_iret hx hb hr hlocks hS hP hD (Nat.le_of_ble_eq_true rfl) (Nat.le_of_ble_eq_true rfl) d_C_count_68 (⟨hR, 3, hk, rfl, rfl⟩)
    · refine lv_iload_n hx hb d_C_count_0 rfl (lv_at hl 1 rfl) ?_
      refine lv_tableIn (off := 68) (tgt := 69) hx hb d_C_count_1 (by decide) (by decide) (by decide) (by decide) ?_
      refine lv_aload_n hx hb d_C_count_69 rfl (lv_at hl 0 rfl) ?_
      refine x_calli (va_runV (As := []) (rest := []) ⟨hx, hb, hml, hown, ht⟩ (c_hasW l G A ws o z u lv le lk V E K inp w d wV wC hR (by omega)) (cwV 0 ht (TW_V k_ml_C_141 k_im_C_hasWitness k_se_C_hasWitness k_in_C k_code_C_hasWitness) rfl rfl rfl hv_C_hasWitness ⟨Nat.le_of_ble_eq_true rfl, Nat.le_of_ble_eq_true rfl⟩) ⟨x_blind, va_recv hK hP rfl x1_, x_pre hE hA hS hP hD⟩ rfl rfl hl.1 rfl (lv_room (Nat.le_of_ble_eq_true rfl)) d_C_count_70 ⟨Nat.le_of_ble_eq_true rfl, Nat.le_of_ble_eq_true rfl⟩) hS (fun r12 w11 H locs q10 hP hD hS => ?_)
      obtain ⟨rfl, ⟨rfl, hq⟩ | ⟨rfl, hq⟩⟩ := q10
      · refine x_if_eq hx hb 1 rfl (by omega) (tgt := 80) d_C_count_73 (by decide) (fun c13 => ?_) (fun c13 => ?_)
        · exact False.elim (by omega)
        · refine lv_iconst (v := (nI 1)) hx hb d_C_count_76 (by decide) ?_
          refine lv_goto (tgt := 81) hx hb d_C_count_77 (by decide) ?_
          refine vx_ret ?_
          exact x_iret hx hb hr hlocks hS hP hD (Nat.le_of_ble_eq_true rfl) (Nat.le_of_ble_eq_true rfl) d_C_count_81 (⟨hR, 4, hk, rfl, by simp [cnt, hq]⟩)
      · refine x_if_eq hx hb 0 rfl (by omega) (tgt := 80) d_C_count_73 (by decide) (fun c14 => ?_) (fun c14 => ?_)
        · refine lv_iconst (v := (nI 0)) hx hb d_C_count_80 (by decide) ?_
          refine vx_ret ?_
          exact x_iret hx hb hr hlocks hS hP hD (Nat.le_of_ble_eq_true rfl) (Nat.le_of_ble_eq_true rfl) d_C_count_81 (⟨hR, 4, hk, rfl, by simp [cnt, hq]⟩)
        · exact False.elim (by omega)
    · refine lv_iload_n hx hb d_C_count_0 rfl (lv_at hl 1 rfl) ?_
      refine lv_tableIn (off := 81) (tgt := 82) hx hb d_C_count_1 (by decide) (by decide) (by decide) (by decide) ?_
      refine lv_aload_n hx hb d_C_count_82 rfl (lv_at hl 0 rfl) ?_
      refine va_get (D := xD G) (ci := 0) (C := R_C) (T := F_C) (N := 10) hx hb ht in_C hown hK hP 0 x1_ rfl 8 (by decide) (ht _ k_fl_C_132) (fun _ h9 => h9) rfl d_C_count_83 ?_
      refine vx_ret ?_
      exact x_iret hx hb hr hlocks hS hP hD (Nat.le_of_ble_eq_true rfl) (Nat.le_of_ble_eq_true rfl) d_C_count_86 (⟨hR, 5, hk, rfl, rfl⟩)
  · refine lv_iload_n hx hb d_C_count_0 rfl (lv_at hl 1 rfl) ?_
    refine lv_tableOut (tgt := 87) hx hb d_C_count_1 (by have := not_md (by decide) hm; omega) (by decide) ?_
    exact vx_throw0 (own := R_C) (cls := "java/lang/IllegalArgumentException") (names := ["java/lang/RuntimeException", "java/lang/Exception"]) hx hb hst hown (by decide) (by decide) (ht _ k_cl_C_56) (ht _ k_in_IllegalArgumentException) (x_hat ht hE.2.2.2.2.2.2.2 at_IAE) hg_IAE hE.2.2.2.2.2.1 hE.2.2.2.2.2.2.1 hS (hl.1.trans hml.symm) d_C_count_87 d_C_count_90 d_C_count_91 d_C_count_94 (fun x h => (hno x h).elim) (Nat.le_of_ble_eq_true rfl) (Nat.le_of_ble_eq_true rfl) (Nat.le_of_ble_eq_true rfl) (Nat.le_of_ble_eq_true rfl) hlocks (x_thrown hS hP hD (⟨hR, rfl, hm⟩)) hS.2.2 (Nat.le_of_ble_eq_true rfl) (Nat.le_of_ble_eq_true rfl)
