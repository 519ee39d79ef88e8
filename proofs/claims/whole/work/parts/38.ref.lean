theorem fil_some {V : List VV} {n i v : Nat} {d : Nat → Nat} (h : num (vAt V i) d = some v) : fil V (n + 1) i d = fil V n (i + 1) (va_up d i v) := by
  show (match num (vAt V i) d with | none => (false, d) | some u => fil V n (i + 1) (va_up d i u)) = _
  rw [h]
theorem fil_none {V : List VV} {n i : Nat} {d : Nat → Nat} (h : num (vAt V i) d = none) : fil V (n + 1) i d = (false, d) := by
  show (match num (vAt V i) d with | none => (false, d) | some u => fil V n (i + 1) (va_up d i u)) = _
  rw [h]

set_option maxHeartbeats 4000000 in
set_option maxRecDepth 100000 in
theorem m_solve (l : Launch) (G : xG) (A : Nat → Prop) (ws : va_W) (a : MA) (st : MS) (hw : ws = mW G a st) (V : List VV) (E : List EE) (K : List KK) (inp : Nat) (w : Nat → Nat) (wV wC : Nat) (hM : MRel st V E K inp w wV wC) (hI : okI V E K inp wV wC) (d : Nat → Nat) : Met l y_M_solve (cw_M_solve :: TW) { frames := 7, cells := 0, slots := 0, locals := 182 } (va_Pc [.ref a.m] (x_P G A ws)) (qI G A (fun r w9 => ∃ st' : MS, w9 = mW G a st' ∧ ((st'.th = 0 ∧ ∃ d' : Nat → Nat, fil V V.length 0 d = (true, d') ∧ r = nI (brk K d' K.length) ∧ MRel st' V E K inp d' V.length K.length) ∨ (st'.th = 1 ∧ (∃ d' : Nat → Nat, fil V V.length 0 d = (false, d')) ∧ MRel st' V E K inp w wV wC)))) 0 0 A := by
  refine Met.ofW (cc := b_M_solve) (maxL := 3) (ret := (some .int)) (by decide) rfl ?_
  intro p e s m args below meth c s₁ B hml hv
  obtain ⟨rfl, hE, hA, hP, hD⟩ := hv
  have hx := B.exec
  have hb := B.bytes
  have hr := B.returns
  have ht : ∀ w ∈ TW, w.before _ s = true := fun w h => atoms_spec (ws := cw_M_solve :: TW) B.pre w (List.mem_cons_of_mem _ h)
  have hown : s.vm.findClass R_M = some m.cls := findClass_of_methodNamed B.named
  have hlocks := B.notSynchronized
  have hK := hE.1
  have hS : va_S A s.heap s.heap [] := va_S.rf
  have hl := lv_entry ([.ref a.m]) (n := 3) (Nat.le_of_ble_eq_true rfl)
  rw [lg_entry_eq]
  generalize (lg_sl ([.ref a.m]) ++ List.replicate (3 - (lg_sl ([.ref a.m])).length) Slot.unset).toArray = ls at hl ⊢
  have hl : lv_has ls 3 [(0, .ref a.m)] := hl
  obtain ⟨i1, i2, i3, i4, i5, i6, i7, i8, i9⟩ := id hI
  have hco := hM.1.1
  have hva := hM.2.1.1
  have hex := hM.2.2.1.1
  have hS9 : ∀ e9 j, e9 < E.length → j < 60 → st.S (60 * e9 + j) = sE E e9 j := fun e9 j h1 h2 => (hM.2.2.1.2.1 e9 j h1 h2).1
  have hS8 : ∀ e9 j, e9 < E.length → j < 60 → sE E e9 j < 97 := fun e9 j h1 h2 => (hM.2.2.1.2.1 e9 j h1 h2).2.1
  have hS6 : ∀ e9, e9 < E.length → ∀ j, j < 60 → st.S (60 * e9 + j) < 97 := fun e9 h1 j h2 => by rw [hS9 e9 j h1 h2]; exact hS8 e9 j h1 h2
  have hS7 : ∀ e9 j, e9 < E.length → V.length ≤ j → j < 60 → sE E e9 j = 0 := fun e9 j h1 h3 h2 => (hM.2.2.1.2.1 e9 j h1 h2).2.2 h3
  have h1 : ws[0]? = some (a.m, .inr (5, [.int (nI st.th), .ref a.aS, .ref a.aK, .ref a.aI, .int (nI st.ex), .ref a.aH, .ref a.aF, .ref a.aG, .int (nI st.va), .ref a.aR, .int (nI st.co), .ref a.aL, .ref a.aT, .ref a.aO, .ref a.aB, .ref a.aW, .int (nI st.sv), .int (nI st.kn), .int (nI st.kc)])) := by rw [hw]; rfl
  refine lv_aload_n hx hb d_M_solve_0 rfl (lv_at hl 0 rfl) ?_
  refine lv_iconst (v := (nI 0)) hx hb d_M_solve_1 (by decide) ?_
  refine va_put (D := xD G) (ci := 5) (v := .int (nI 0)) (ty := .int) (C := R_M) (T := F_M) (N := 19) hx hb ht in_M ft_M fo_M nm_M hown hK hP hD hS 0 h1 rfl 0 (by decide) (ht _ k_fl_M_50) (fun _ h9 => h9) rfl (by decide +kernel) rfl rfl (Nat.le_of_ble_eq_true rfl) d_M_solve_2 (fun H locs hP hD hS => ?_)
  have hP : va_P (xD G) CL (ws.set 0 (a.m, .inr (5, [.int (nI 0), .ref a.aS, .ref a.aK, .ref a.aI, .int (nI st.ex), .ref a.aH, .ref a.aF, .ref a.aG, .int (nI st.va), .ref a.aR, .int (nI st.co), .ref a.aL, .ref a.aT, .ref a.aO, .ref a.aB, .ref a.aW, .int (nI st.sv), .int (nI st.kn), .int (nI st.kc)]))) H := hP
  have hD : va_D A (ws.set 0 (a.m, .inr (5, [.int (nI 0), .ref a.aS, .ref a.aK, .ref a.aI, .int (nI st.ex), .ref a.aH, .ref a.aF, .ref a.aG, .int (nI st.va), .ref a.aR, .int (nI st.co), .ref a.aL, .ref a.aT, .ref a.aO, .ref a.aB, .ref a.aW, .int (nI st.sv), .int (nI st.kn), .int (nI st.kc)]))) := hD
  obtain ⟨w2, e_w2⟩ : ∃ zz : va_W, zz = ws.set 0 (a.m, .inr (5, [.int (nI 0), .ref a.aS, .ref a.aK, .ref a.aI, .int (nI st.ex), .ref a.aH, .ref a.aF, .ref a.aG, .int (nI st.va), .ref a.aR, .int (nI st.co), .ref a.aL, .ref a.aT, .ref a.aO, .ref a.aB, .ref a.aW, .int (nI st.sv), .int (nI st.kn), .int (nI st.kc)])) := ⟨_, rfl⟩
  rw [← e_w2] at hP hD
  have h3 : w2[0]? = some (a.m, .inr (5, [.int (nI 0), .ref a.aS, .ref a.aK, .ref a.aI, .int (nI st.ex), .ref a.aH, .ref a.aF, .ref a.aG, .int (nI st.va), .ref a.aR, .int (nI st.co), .ref a.aL, .ref a.aT, .ref a.aO, .ref a.aB, .ref a.aW, .int (nI st.sv), .int (nI st.kn), .int (nI st.kc)])) := by rw [e_w2]; exact w_eq h1
  have E4 : w2 = mW G a (⟨0, st.ex, st.va, st.co, st.sv, st.kn, st.kc, st.S, st.Kd, st.In, st.Hw, st.Fr, st.Gn, st.R, st.L, st.T, st.O, st.B, st.W⟩ : MS) := by rw [e_w2, hw]; rfl
  have h5 : w2[0]? = some (a.m, .inr (5, [.int (nI 0), .ref a.aS, .ref a.aK, .ref a.aI, .int (nI st.ex), .ref a.aH, .ref a.aF, .ref a.aG, .int (nI st.va), .ref a.aR, .int (nI st.co), .ref a.aL, .ref a.aT, .ref a.aO, .ref a.aB, .ref a.aW, .int (nI st.sv), .int (nI st.kn), .int (nI st.kc)])) := by rw [E4]; rfl
  have h6 : w2[11]? = some (a.aB, aI G 60 (rI st.B)) := by rw [E4]; rfl
  refine lv_iconst (v := (nI 0)) hx hb d_M_solve_5 (by decide) ?_
  refine lv_istore_n (lv' := [(1, .int (nI 0)), (0, .ref a.m)]) hx hb d_M_solve_6 rfl hl (by decide) rfl (fun ls hl => ?_)
  have z9 : w2 = (w2.set 11 (a.aB, aI G 60 (rI (ovb 0 0 st.B zr)))) := by rw [ovb_0]; exact (w_self h6).symm
  rw [z9] at hP hD
  have loop : ∀ (n i : Nat), i + n = 60 → ∀ (H : Heap) (locs : List Loc) (ls : Array Slot), (va_P (xD G) CL (w2.set 11 (a.aB, aI G 60 (rI (ovb i 0 st.B zr)))) H) → (va_D A (w2.set 11 (a.aB, aI G 60 (rI (ovb i 0 st.B zr))))) → (va_S A s.heap H locs) → lv_has ls 3 [(1, .int (nI i)), (0, .ref a.m)] → W p l e (headSpec (cw_M_solve :: TW) { frames := 7, cells := 0, slots := 0, locals := 182 }).room s m ([.ref a.m] : List Value).toArray below meth c H locs 0 0 (MQ below (qI G A (fun r w9 => ∃ st' : MS, w9 = mW G a st' ∧ ((st'.th = 0 ∧ ∃ d' : Nat → Nat, fil V V.length 0 d = (true, d') ∧ r = nI (brk K d' K.length) ∧ MRel st' V E K inp d' V.length K.length) ∨ (st'.th = 1 ∧ (∃ d' : Nat → Nat, fil V V.length 0 d = (false, d')) ∧ MRel st' V E K inp w wV wC)))) ([.ref a.m] : List Value).toArray s 0 0 A) (F0 m 7 ls []) := by
    intro n
    induction n with
    | zero =>
      intro i hi H locs ls hP hD hS hl
      refine lv_iload_n hx hb d_M_solve_7 rfl (lv_at hl 0 rfl) ?_
      refine lv_bipush (v := (nI 60)) hx hb d_M_solve_8 (by decide) ?_
      refine x_ge hx hb i 60 rfl rfl (by omega) (by omega) (tgt := 26) d_M_solve_10 (by decide) (fun c7 => ?_) (fun c7 => ?_)
      · have i0 : i = 60 := by omega
        rw [i0] at hP hD
        obtain ⟨w8, e_w8⟩ : ∃ zz : va_W, zz = (w2.set 11 (a.aB, aI G 60 (rI (ovb 60 0 st.B zr)))) := ⟨_, rfl⟩
        rw [← e_w8] at hP hD
        have h9 : w8[0]? = some (a.m, .inr (5, [.int (nI 0), .ref a.aS, .ref a.aK, .ref a.aI, .int (nI st.ex), .ref a.aH, .ref a.aF, .ref a.aG, .int (nI st.va), .ref a.aR, .int (nI st.co), .ref a.aL, .ref a.aT, .ref a.aO, .ref a.aB, .ref a.aW, .int (nI st.sv), .int (nI st.kn), .int (nI st.kc)])) := by rw [e_w8]; exact w_ne (by decide) h5
        have h10 : w8[11]? = some (a.aB, aI G 60 (rI (ovb 60 0 st.B zr))) := by rw [e_w8]; exact w_eq h6
        have E11 : w8 = mW G a (⟨0, st.ex, st.va, st.co, st.sv, st.kn, st.kc, st.S, st.Kd, st.In, st.Hw, st.Fr, st.Gn, st.R, st.L, st.T, st.O, (ovb 60 0 st.B zr), st.W⟩ : MS) := by rw [e_w8, E4]; exact mW_B
        have h12 : w8[0]? = some (a.m, .inr (5, [.int (nI 0), .ref a.aS, .ref a.aK, .ref a.aI, .int (nI st.ex), .ref a.aH, .ref a.aF, .ref a.aG, .int (nI st.va), .ref a.aR, .int (nI st.co), .ref a.aL, .ref a.aT, .ref a.aO, .ref a.aB, .ref a.aW, .int (nI st.sv), .int (nI st.kn), .int (nI st.kc)])) := by rw [E11]; rfl
        have h13 : w8[11]? = some (a.aB, aI G 60 (rI (ovb 60 0 st.B zr))) := by rw [E11]; rfl
        refine lv_aload_n hx hb d_M_solve_26 rfl (lv_at hl 1 rfl) ?_
        refine va_get (D := xD G) (ci := 5) (C := R_M) (T := F_M) (N := 19) hx hb ht in_M hown hK hP 0 h12 rfl 14 (by decide) (ht _ k_fl_M_44) (fun _ h9 => h9) rfl d_M_solve_27 ?_
        refine lv_iconst (v := (nI 0)) hx hb d_M_solve_30 (by decide) ?_
        refine lv_iconst (v := (nI 1)) hx hb d_M_solve_31 (by decide) ?_
        refine x_iast hx hb hK hP hD hS h13 0 rfl (by omega) (by omega) d_M_solve_32 (fun H locs hP hD hS => ?_)
        have hP : va_P (xD G) CL (w8.set 11 (a.aB, aI G 60 (upd (rI (ovb 60 0 st.B zr)) 0 (nI 1)))) H := hP
        have hD : va_D A (w8.set 11 (a.aB, aI G 60 (upd (rI (ovb 60 0 st.B zr)) 0 (nI 1)))) := hD
        obtain ⟨w14, e_w14⟩ : ∃ zz : va_W, zz = w8.set 11 (a.aB, aI G 60 (upd (rI (ovb 60 0 st.B zr)) 0 (nI 1))) := ⟨_, rfl⟩
        rw [← e_w14] at hP hD
        have h15 : w14[11]? = some (a.aB, aI G 60 (upd (rI (ovb 60 0 st.B zr)) 0 (nI 1))) := by rw [e_w14]; exact w_eq h13
        have E16 : w14 = mW G a (⟨0, st.ex, st.va, st.co, st.sv, st.kn, st.kc, st.S, st.Kd, st.In, st.Hw, st.Fr, st.Gn, st.R, st.L, st.T, st.O, (va_up (ovb 60 0 st.B zr) 0 1), st.W⟩ : MS) := by rw [e_w14, E11, up_rI]; exact mW_B
        have h17 : w14[0]? = some (a.m, .inr (5, [.int (nI 0), .ref a.aS, .ref a.aK, .ref a.aI, .int (nI st.ex), .ref a.aH, .ref a.aF, .ref a.aG, .int (nI st.va), .ref a.aR, .int (nI st.co), .ref a.aL, .ref a.aT, .ref a.aO, .ref a.aB, .ref a.aW, .int (nI st.sv), .int (nI st.kn), .int (nI st.kc)])) := by rw [E16]; rfl
        have h18 : w14[11]? = some (a.aB, aI G 60 (rI (va_up (ovb 60 0 st.B zr) 0 1))) := by rw [E16]; rfl
        obtain ⟨b0, eb0⟩ : ∃ zz : Nat → Nat, zz = (va_up (ovb 60 0 st.B zr) 0 1) := ⟨_, rfl⟩
        rw [← eb0] at E16
        have hb0 : ∀ j, j < 60 → b0 j < 97 := fun j hj => by rw [eb0]; unfold va_up; split; decide; rw [ovb_at hj]; exact (by decide : 0 < 97)
        have hb1 : b0 0 = 1 := by rw [eb0]; exact up_at
        refine lv_iconst (v := (nI 1)) hx hb d_M_solve_33 (by decide) ?_
        refine lv_istore_n (lv' := [(1, .int (nI 1)), (0, .ref a.m)]) hx hb d_M_solve_34 rfl hl (by decide) rfl (fun ls hl => ?_)
        have e0 : fil V (V.length - 1 + 1) 0 d = fil V (V.length - 1) 1 (va_up d 0 1) := fil_some (by unfold num; rw [hM.2.1.2.2.1]; rfl)
        rw [show V.length - 1 + 1 = V.length by omega] at e0
        have main : ∀ (n v : Nat), v + n = V.length → 1 ≤ v → ∀ (bv dv : Nat → Nat) (w9 : va_W) (H : Heap) (locs : List Loc) (ls : Array Slot), w9 = mW G a (⟨0, st.ex, st.va, st.co, st.sv, st.kn, st.kc, st.S, st.Kd, st.In, st.Hw, st.Fr, st.Gn, st.R, st.L, st.T, st.O, bv, st.W⟩ : MS) → (∀ j, j < 60 → bv j < 97) → (∀ j, j < v → bv j = dv j) → fil V V.length 0 d = fil V n v dv → va_P (xD G) CL w9 H → va_D A w9 → va_S A s.heap H locs → lv_has ls 3 [(1, .int (nI v)), (0, .ref a.m)] → W p l e (headSpec (cw_M_solve :: TW) { frames := 7, cells := 0, slots := 0, locals := 182 }).room s m ([.ref a.m] : List Value).toArray below meth c H locs 0 0 (MQ below (qI G A (fun r w9 => ∃ st' : MS, w9 = mW G a st' ∧ ((st'.th = 0 ∧ ∃ d' : Nat → Nat, fil V V.length 0 d = (true, d') ∧ r = nI (brk K d' K.length) ∧ MRel st' V E K inp d' V.length K.length) ∨ (st'.th = 1 ∧ (∃ d' : Nat → Nat, fil V V.length 0 d = (false, d')) ∧ MRel st' V E K inp w wV wC)))) ([.ref a.m] : List Value).toArray s 0 0 A) (F0 m 35 ls []) := by
          intro n
          induction n with
          | zero =>
            intro v hv hv1 bv dv w9 H locs ls hw9 hbv hag hfl hP hD hS hl
            have h19 : w9[0]? = some (a.m, .inr (5, [.int (nI 0), .ref a.aS, .ref a.aK, .ref a.aI, .int (nI st.ex), .ref a.aH, .ref a.aF, .ref a.aG, .int (nI st.va), .ref a.aR, .int (nI st.co), .ref a.aL, .ref a.aT, .ref a.aO, .ref a.aB, .ref a.aW, .int (nI st.sv), .int (nI st.kn), .int (nI st.kc)])) := by rw [hw9]; rfl
            have h20 : w9[11]? = some (a.aB, aI G 60 (rI bv)) := by rw [hw9]; rfl
            have h21 : w9[12]? = some (a.aW, aI G 60 (rI st.W)) := by rw [hw9]; rfl
            refine lv_iload_n hx hb d_M_solve_35 rfl (lv_at hl 0 rfl) ?_
            refine lv_aload_n hx hb d_M_solve_36 rfl (lv_at hl 1 rfl) ?_
            refine va_get (D := xD G) (ci := 5) (C := R_M) (T := F_M) (N := 19) hx hb ht in_M hown hK hP 0 h19 rfl 8 (by decide) (ht _ k_fl_M_28) (fun _ h9 => h9) rfl d_M_solve_37 ?_
            refine x_ge hx hb v st.va rfl rfl (by omega) (by omega) (tgt := 210) d_M_solve_40 (by decide) (fun c22 => ?_) (fun c22 => ?_)
            · have hv9 : v = V.length := by omega
              rw [hv9] at hag
              have hfl : fil V V.length 0 d = (true, dv) := hfl
              refine lv_iconst (v := (nI 0)) hx hb d_M_solve_210 (by decide) ?_
              refine lv_istore_n (lv' := [(1, .int (nI 0)), (0, .ref a.m)]) hx hb d_M_solve_211 rfl hl (by decide) rfl (fun ls hl => ?_)
              have z9 : w9 = (w9.set 12 (a.aW, aI G 60 (rI (ovb 0 0 st.W bv)))) := by rw [ovb_0]; exact (w_self h21).symm
              rw [z9] at hP hD
              have loop : ∀ (n i : Nat), i + n = 60 → ∀ (H : Heap) (locs : List Loc) (ls : Array Slot), (va_P (xD G) CL (w9.set 12 (a.aW, aI G 60 (rI (ovb i 0 st.W bv)))) H) → (va_D A (w9.set 12 (a.aW, aI G 60 (rI (ovb i 0 st.W bv))))) → (va_S A s.heap H locs) → lv_has ls 3 [(1, .int (nI i)), (0, .ref a.m)] → W p l e (headSpec (cw_M_solve :: TW) { frames := 7, cells := 0, slots := 0, locals := 182 }).room s m ([.ref a.m] : List Value).toArray below meth c H locs 0 0 (MQ below (qI G A (fun r w9 => ∃ st' : MS, w9 = mW G a st' ∧ ((st'.th = 0 ∧ ∃ d' : Nat → Nat, fil V V.length 0 d = (true, d') ∧ r = nI (brk K d' K.length) ∧ MRel st' V E K inp d' V.length K.length) ∨ (st'.th = 1 ∧ (∃ d' : Nat → Nat, fil V V.length 0 d = (false, d')) ∧ MRel st' V E K inp w wV wC)))) ([.ref a.m] : List Value).toArray s 0 0 A) (F0 m 212 ls []) := by
                intro n
                induction n with
                | zero =>
                  intro i hi H locs ls hP hD hS hl
                  refine lv_iload_n hx hb d_M_solve_212 rfl (lv_at hl 0 rfl) ?_
                  refine lv_bipush (v := (nI 60)) hx hb d_M_solve_213 (by decide) ?_
                  refine x_ge hx hb i 60 rfl rfl (by omega) (by omega) (tgt := 236) d_M_solve_215 (by decide) (fun c23 => ?_) (fun c23 => ?_)
                  · have i0 : i = 60 := by omega
                    rw [i0] at hP hD
                    obtain ⟨w24, e_w24⟩ : ∃ zz : va_W, zz = (w9.set 12 (a.aW, aI G 60 (rI (ovb 60 0 st.W bv)))) := ⟨_, rfl⟩
                    rw [← e_w24] at hP hD
                    have h25 : w24[0]? = some (a.m, .inr (5, [.int (nI 0), .ref a.aS, .ref a.aK, .ref a.aI, .int (nI st.ex), .ref a.aH, .ref a.aF, .ref a.aG, .int (nI st.va), .ref a.aR, .int (nI st.co), .ref a.aL, .ref a.aT, .ref a.aO, .ref a.aB, .ref a.aW, .int (nI st.sv), .int (nI st.kn), .int (nI st.kc)])) := by rw [e_w24]; exact w_ne (by decide) h19
                    have h26 : w24[11]? = some (a.aB, aI G 60 (rI bv)) := by rw [e_w24]; exact w_ne (by decide) h20
                    have h27 : w24[12]? = some (a.aW, aI G 60 (rI (ovb 60 0 st.W bv))) := by rw [e_w24]; exact w_eq h21
                    have E28 : w24 = mW G a (⟨0, st.ex, st.va, st.co, st.sv, st.kn, st.kc, st.S, st.Kd, st.In, st.Hw, st.Fr, st.Gn, st.R, st.L, st.T, st.O, bv, (ovb 60 0 st.W bv)⟩ : MS) := by rw [e_w24, hw9]; exact mW_W
                    have h29 : w24[0]? = some (a.m, .inr (5, [.int (nI 0), .ref a.aS, .ref a.aK, .ref a.aI, .int (nI st.ex), .ref a.aH, .ref a.aF, .ref a.aG, .int (nI st.va), .ref a.aR, .int (nI st.co), .ref a.aL, .ref a.aT, .ref a.aO, .ref a.aB, .ref a.aW, .int (nI st.sv), .int (nI st.kn), .int (nI st.kc)])) := by rw [E28]; rfl
                    refine lv_aload_n hx hb d_M_solve_236 rfl (lv_at hl 1 rfl) ?_
                    refine lv_iconst (v := (nI 1)) hx hb d_M_solve_237 (by decide) ?_
                    refine va_put (D := xD G) (ci := 5) (v := .int (nI 1)) (ty := .boolean) (C := R_M) (T := F_M) (N := 19) hx hb ht in_M ft_M fo_M nm_M hown hK hP hD hS 0 h29 rfl 16 (by decide) (ht _ k_fl_M_135) (fun _ h9 => h9) rfl (by decide +kernel) rfl rfl (Nat.le_of_ble_eq_true rfl) d_M_solve_238 (fun H locs hP hD hS => ?_)
                    have hP : va_P (xD G) CL (w24.set 0 (a.m, .inr (5, [.int (nI 0), .ref a.aS, .ref a.aK, .ref a.aI, .int (nI st.ex), .ref a.aH, .ref a.aF, .ref a.aG, .int (nI st.va), .ref a.aR, .int (nI st.co), .ref a.aL, .ref a.aT, .ref a.aO, .ref a.aB, .ref a.aW, .int (nI 1), .int (nI st.kn), .int (nI st.kc)]))) H := hP
                    have hD : va_D A (w24.set 0 (a.m, .inr (5, [.int (nI 0), .ref a.aS, .ref a.aK, .ref a.aI, .int (nI st.ex), .ref a.aH, .ref a.aF, .ref a.aG, .int (nI st.va), .ref a.aR, .int (nI st.co), .ref a.aL, .ref a.aT, .ref a.aO, .ref a.aB, .ref a.aW, .int (nI 1), .int (nI st.kn), .int (nI st.kc)]))) := hD
                    obtain ⟨w30, e_w30⟩ : ∃ zz : va_W, zz = w24.set 0 (a.m, .inr (5, [.int (nI 0), .ref a.aS, .ref a.aK, .ref a.aI, .int (nI st.ex), .ref a.aH, .ref a.aF, .ref a.aG, .int (nI st.va), .ref a.aR, .int (nI st.co), .ref a.aL, .ref a.aT, .ref a.aO, .ref a.aB, .ref a.aW, .int (nI 1), .int (nI st.kn), .int (nI st.kc)])) := ⟨_, rfl⟩
                    rw [← e_w30] at hP hD
                    have h31 : w30[0]? = some (a.m, .inr (5, [.int (nI 0), .ref a.aS, .ref a.aK, .ref a.aI, .int (nI st.ex), .ref a.aH, .ref a.aF, .ref a.aG, .int (nI st.va), .ref a.aR, .int (nI st.co), .ref a.aL, .ref a.aT, .ref a.aO, .ref a.aB, .ref a.aW, .int (nI 1), .int (nI st.kn), .int (nI st.kc)])) := by rw [e_w30]; exact w_eq h29
                    have E32 : w30 = mW G a (⟨0, st.ex, st.va, st.co, 1, st.kn, st.kc, st.S, st.Kd, st.In, st.Hw, st.Fr, st.Gn, st.R, st.L, st.T, st.O, bv, (ovb 60 0 st.W bv)⟩ : MS) := by rw [e_w30, E28]; rfl
                    have h33 : w30[0]? = some (a.m, .inr (5, [.int (nI 0), .ref a.aS, .ref a.aK, .ref a.aI, .int (nI st.ex), .ref a.aH, .ref a.aF, .ref a.aG, .int (nI st.va), .ref a.aR, .int (nI st.co), .ref a.aL, .ref a.aT, .ref a.aO, .ref a.aB, .ref a.aW, .int (nI 1), .int (nI st.kn), .int (nI st.kc)])) := by rw [E32]; rfl
                    refine lv_aload_n hx hb d_M_solve_241 rfl (lv_at hl 1 rfl) ?_
                    refine lv_aload_n hx hb d_M_solve_242 rfl (lv_at hl 1 rfl) ?_
                    refine va_get (D := xD G) (ci := 5) (C := R_M) (T := F_M) (N := 19) hx hb ht in_M hown hK hP 0 h33 rfl 8 (by decide) (ht _ k_fl_M_28) (fun _ h9 => h9) rfl d_M_solve_243 ?_
                    refine va_put (D := xD G) (ci := 5) (v := .int (nI st.va)) (ty := .int) (C := R_M) (T := F_M) (N := 19) hx hb ht in_M ft_M fo_M nm_M hown hK hP hD hS 0 h33 rfl 17 (by decide) (ht _ k_fl_M_139) (fun _ h9 => h9) rfl (by decide +kernel) rfl rfl (Nat.le_of_ble_eq_true rfl) d_M_solve_246 (fun H locs hP hD hS => ?_)
                    have hP : va_P (xD G) CL (w30.set 0 (a.m, .inr (5, [.int (nI 0), .ref a.aS, .ref a.aK, .ref a.aI, .int (nI st.ex), .ref a.aH, .ref a.aF, .ref a.aG, .int (nI st.va), .ref a.aR, .int (nI st.co), .ref a.aL, .ref a.aT, .ref a.aO, .ref a.aB, .ref a.aW, .int (nI 1), .int (nI st.va), .int (nI st.kc)]))) H := hP
                    have hD : va_D A (w30.set 0 (a.m, .inr (5, [.int (nI 0), .ref a.aS, .ref a.aK, .ref a.aI, .int (nI st.ex), .ref a.aH, .ref a.aF, .ref a.aG, .int (nI st.va), .ref a.aR, .int (nI st.co), .ref a.aL, .ref a.aT, .ref a.aO, .ref a.aB, .ref a.aW, .int (nI 1), .int (nI st.va), .int (nI st.kc)]))) := hD
                    obtain ⟨w34, e_w34⟩ : ∃ zz : va_W, zz = w30.set 0 (a.m, .inr (5, [.int (nI 0), .ref a.aS, .ref a.aK, .ref a.aI, .int (nI st.ex), .ref a.aH, .ref a.aF, .ref a.aG, .int (nI st.va), .ref a.aR, .int (nI st.co), .ref a.aL, .ref a.aT, .ref a.aO, .ref a.aB, .ref a.aW, .int (nI 1), .int (nI st.va), .int (nI st.kc)])) := ⟨_, rfl⟩
                    rw [← e_w34] at hP hD
                    have h35 : w34[0]? = some (a.m, .inr (5, [.int (nI 0), .ref a.aS, .ref a.aK, .ref a.aI, .int (nI st.ex), .ref a.aH, .ref a.aF, .ref a.aG, .int (nI st.va), .ref a.aR, .int (nI st.co), .ref a.aL, .ref a.aT, .ref a.aO, .ref a.aB, .ref a.aW, .int (nI 1), .int (nI st.va), .int (nI st.kc)])) := by rw [e_w34]; exact w_eq h33
                    have E36 : w34 = mW G a (⟨0, st.ex, st.va, st.co, 1, st.va, st.kc, st.S, st.Kd, st.In, st.Hw, st.Fr, st.Gn, st.R, st.L, st.T, st.O, bv, (ovb 60 0 st.W bv)⟩ : MS) := by rw [e_w34, E32]; rfl
                    have h37 : w34[0]? = some (a.m, .inr (5, [.int (nI 0), .ref a.aS, .ref a.aK, .ref a.aI, .int (nI st.ex), .ref a.aH, .ref a.aF, .ref a.aG, .int (nI st.va), .ref a.aR, .int (nI st.co), .ref a.aL, .ref a.aT, .ref a.aO, .ref a.aB, .ref a.aW, .int (nI 1), .int (nI st.va), .int (nI st.kc)])) := by rw [E36]; rfl
                    refine lv_aload_n hx hb d_M_solve_249 rfl (lv_at hl 1 rfl) ?_
                    refine lv_aload_n hx hb d_M_solve_250 rfl (lv_at hl 1 rfl) ?_
                    refine va_get (D := xD G) (ci := 5) (C := R_M) (T := F_M) (N := 19) hx hb ht in_M hown hK hP 0 h37 rfl 10 (by decide) (ht _ k_fl_M_72) (fun _ h9 => h9) rfl d_M_solve_251 ?_
                    refine va_put (D := xD G) (ci := 5) (v := .int (nI st.co)) (ty := .int) (C := R_M) (T := F_M) (N := 19) hx hb ht in_M ft_M fo_M nm_M hown hK hP hD hS 0 h37 rfl 18 (by decide) (ht _ k_fl_M_142) (fun _ h9 => h9) rfl (by decide +kernel) rfl rfl (Nat.le_of_ble_eq_true rfl) d_M_solve_254 (fun H locs hP hD hS => ?_)
                    have hP : va_P (xD G) CL (w34.set 0 (a.m, .inr (5, [.int (nI 0), .ref a.aS, .ref a.aK, .ref a.aI, .int (nI st.ex), .ref a.aH, .ref a.aF, .ref a.aG, .int (nI st.va), .ref a.aR, .int (nI st.co), .ref a.aL, .ref a.aT, .ref a.aO, .ref a.aB, .ref a.aW, .int (nI 1), .int (nI st.va), .int (nI st.co)]))) H := hP
                    have hD : va_D A (w34.set 0 (a.m, .inr (5, [.int (nI 0), .ref a.aS, .ref a.aK, .ref a.aI, .int (nI st.ex), .ref a.aH, .ref a.aF, .ref a.aG, .int (nI st.va), .ref a.aR, .int (nI st.co), .ref a.aL, .ref a.aT, .ref a.aO, .ref a.aB, .ref a.aW, .int (nI 1), .int (nI st.va), .int (nI st.co)]))) := hD
                    obtain ⟨w38, e_w38⟩ : ∃ zz : va_W, zz = w34.set 0 (a.m, .inr (5, [.int (nI 0), .ref a.aS, .ref a.aK, .ref a.aI, .int (nI st.ex), .ref a.aH, .ref a.aF, .ref a.aG, .int (nI st.va), .ref a.aR, .int (nI st.co), .ref a.aL, .ref a.aT, .ref a.aO, .ref a.aB, .ref a.aW, .int (nI 1), .int (nI st.va), .int (nI st.co)])) := ⟨_, rfl⟩
                    rw [← e_w38] at hP hD
                    have h39 : w38[0]? = some (a.m, .inr (5, [.int (nI 0), .ref a.aS, .ref a.aK, .ref a.aI, .int (nI st.ex), .ref a.aH, .ref a.aF, .ref a.aG, .int (nI st.va), .ref a.aR, .int (nI st.co), .ref a.aL, .ref a.aT, .ref a.aO, .ref a.aB, .ref a.aW, .int (nI 1), .int (nI st.va), .int (nI st.co)])) := by rw [e_w38]; exact w_eq h37
                    have E40 : w38 = mW G a (⟨0, st.ex, st.va, st.co, 1, st.va, st.co, st.S, st.Kd, st.In, st.Hw, st.Fr, st.Gn, st.R, st.L, st.T, st.O, bv, (ovb 60 0 st.W bv)⟩ : MS) := by rw [e_w38, E36]; rfl
                    have h41 : w38[0]? = some (a.m, .inr (5, [.int (nI 0), .ref a.aS, .ref a.aK, .ref a.aI, .int (nI st.ex), .ref a.aH, .ref a.aF, .ref a.aG, .int (nI st.va), .ref a.aR, .int (nI st.co), .ref a.aL, .ref a.aT, .ref a.aO, .ref a.aB, .ref a.aW, .int (nI 1), .int (nI st.va), .int (nI st.co)])) := by rw [E40]; rfl
                    have rel : MRel (⟨0, st.ex, st.va, st.co, 1, st.va, st.co, st.S, st.Kd, st.In, st.Hw, st.Fr, st.Gn, st.R, st.L, st.T, st.O, bv, (ovb 60 0 st.W bv)⟩ : MS) V E K inp dv V.length K.length := ⟨hM.1, hM.2.1, hM.2.2.1, hva, hco, by rw [if_pos (by omega)], fun j hj => by show ovb 60 0 st.W bv j = dv j; rw [ovb_at (by omega)]; exact hag j hj, fun j hj => by show ovb 60 0 st.W bv j < 97; rw [ovb_at hj]; exact hbv j hj, Nat.le_refl _, i2, fun c t j hc ht9 h1 hj => (hM.1.2 c t j hc ht9 hj).2.2 h1⟩
                    refine lv_aload_n hx hb d_M_solve_257 rfl (lv_at hl 1 rfl) ?_
                    refine x_calli (va_runV (As := []) (rest := []) ⟨hx, hb, hml, hown, ht⟩ (c_M_bad l G A w38 a (⟨0, st.ex, st.va, st.co, 1, st.va, st.co, st.S, st.Kd, st.In, st.Hw, st.Fr, st.Gn, st.R, st.L, st.T, st.O, bv, (ovb 60 0 st.W bv)⟩ : MS) E40 V E K inp dv V.length K.length rel i4) (cwV 0 ht (TW_V k_ml_M_145 k_im_M_bad k_se_M_bad k_in_M k_code_M_bad) rfl rfl rfl hv_M_bad ⟨Nat.le_of_ble_eq_true rfl, Nat.le_of_ble_eq_true rfl⟩) ⟨x_blind, va_recv hK hP rfl h41, x_pre hE hA hS hP hD⟩ rfl rfl hl.1 rfl (lv_room (Nat.le_of_ble_eq_true rfl)) d_M_solve_258 ⟨Nat.le_of_ble_eq_true rfl, Nat.le_of_ble_eq_true rfl⟩) hS (fun r44 w43 H locs q42 hP hD hS => ?_)
                    obtain ⟨rfl, rfl⟩ := q42
                    exact x_iret hx hb hr hlocks hS hP hD (Nat.le_of_ble_eq_true rfl) (Nat.le_of_ble_eq_true rfl) d_M_solve_261 (⟨_, E40, Or.inl ⟨rfl, dv, hfl, rfl, rel⟩⟩)
                  · exact False.elim (by omega)
                | succ n ih =>
                  intro i hi H locs ls hP hD hS hl
                  refine lv_iload_n hx hb d_M_solve_212 rfl (lv_at hl 0 rfl) ?_
                  refine lv_bipush (v := (nI 60)) hx hb d_M_solve_213 (by decide) ?_
                  refine x_ge hx hb i 60 rfl rfl (by omega) (by omega) (tgt := 236) d_M_solve_215 (by decide) (fun c45 => ?_) (fun c45 => ?_)
                  · exact False.elim (by omega)
                  · obtain ⟨w46, e_w46⟩ : ∃ zz : va_W, zz = (w9.set 12 (a.aW, aI G 60 (rI (ovb i 0 st.W bv)))) := ⟨_, rfl⟩
                    rw [← e_w46] at hP hD
                    have h47 : w46[0]? = some (a.m, .inr (5, [.int (nI 0), .ref a.aS, .ref a.aK, .ref a.aI, .int (nI st.ex), .ref a.aH, .ref a.aF, .ref a.aG, .int (nI st.va), .ref a.aR, .int (nI st.co), .ref a.aL, .ref a.aT, .ref a.aO, .ref a.aB, .ref a.aW, .int (nI st.sv), .int (nI st.kn), .int (nI st.kc)])) := by rw [e_w46]; exact w_ne (by decide) h19
                    have h48 : w46[11]? = some (a.aB, aI G 60 (rI bv)) := by rw [e_w46]; exact w_ne (by decide) h20
                    have h49 : w46[12]? = some (a.aW, aI G 60 (rI (ovb i 0 st.W bv))) := by rw [e_w46]; exact w_eq h21
                    refine lv_aload_n hx hb d_M_solve_218 rfl (lv_at hl 1 rfl) ?_
                    refine va_get (D := xD G) (ci := 5) (C := R_M) (T := F_M) (N := 19) hx hb ht in_M hown hK hP 0 h47 rfl 15 (by decide) (ht _ k_fl_M_47) (fun _ h9 => h9) rfl d_M_solve_219 ?_
                    refine lv_iload_n hx hb d_M_solve_222 rfl (lv_at hl 0 rfl) ?_
                    refine lv_aload_n hx hb d_M_solve_223 rfl (lv_at hl 1 rfl) ?_
                    refine va_get (D := xD G) (ci := 5) (C := R_M) (T := F_M) (N := 19) hx hb ht in_M hown hK hP 0 h47 rfl 14 (by decide) (ht _ k_fl_M_44) (fun _ h9 => h9) rfl d_M_solve_224 ?_
                    refine lv_iload_n hx hb d_M_solve_227 rfl (lv_at hl 0 rfl) ?_
                    refine x_iald hx hb hK hP h48 i rfl (by omega) (by omega) d_M_solve_228 ?_
                    refine x_top (nI (bv i)) (rfl) ?_
                    refine x_iast hx hb hK hP hD hS h49 i rfl (by omega) (by omega) d_M_solve_229 (fun H locs hP hD hS => ?_)
                    have hP : va_P (xD G) CL (w46.set 12 (a.aW, aI G 60 (upd (rI (ovb i 0 st.W bv)) i (nI (bv i))))) H := hP
                    have hD : va_D A (w46.set 12 (a.aW, aI G 60 (upd (rI (ovb i 0 st.W bv)) i (nI (bv i))))) := hD
                    obtain ⟨w50, e_w50⟩ : ∃ zz : va_W, zz = w46.set 12 (a.aW, aI G 60 (upd (rI (ovb i 0 st.W bv)) i (nI (bv i)))) := ⟨_, rfl⟩
                    rw [← e_w50] at hP hD
                    have h51 : w50[12]? = some (a.aW, aI G 60 (upd (rI (ovb i 0 st.W bv)) i (nI (bv i)))) := by rw [e_w50]; exact w_eq h49
                    have eN9 : w50 = (w9.set 12 (a.aW, aI G 60 (rI (ovb (i + 1) 0 st.W bv)))) := by rw [e_w50, e_w46, List.set_set, up_rI]; exact congrArg (fun q9 => w9.set 12 (a.aW, aI G 60 (rI q9))) ovb_s0
                    refine lv_iinc (v := nI (i + 1)) (lv' := [(1, .int (nI (i + 1))), (0, .ref a.m)]) hx hb d_M_solve_230 hl (k := 0) rfl (n_inc _) (by decide) rfl (fun ls hl => ?_)
                    refine lv_goto (tgt := 212) hx hb d_M_solve_233 (by decide) ?_
                    exact ih (i + 1) (by omega) H locs ls (by rw [← eN9]; exact hP) (by rw [← eN9]; exact hD) hS (lv_sub hl [0, 1] rfl)
              exact loop 60 0 (by omega) H locs ls hP hD hS (lv_sub hl [0, 1] rfl)
            · exact False.elim (by omega)
          | succ n ih =>
            intro v hv hv1 bv dv w9 H locs ls hw9 hbv hag hfl hP hD hS hl
            have h52 : w9[0]? = some (a.m, .inr (5, [.int (nI 0), .ref a.aS, .ref a.aK, .ref a.aI, .int (nI st.ex), .ref a.aH, .ref a.aF, .ref a.aG, .int (nI st.va), .ref a.aR, .int (nI st.co), .ref a.aL, .ref a.aT, .ref a.aO, .ref a.aB, .ref a.aW, .int (nI st.sv), .int (nI st.kn), .int (nI st.kc)])) := by rw [hw9]; rfl
            have h53 : w9[11]? = some (a.aB, aI G 60 (rI bv)) := by rw [hw9]; rfl
            have h54 : w9[4]? = some (a.aH, aI G 60 (rI st.Hw)) := by rw [hw9]; rfl
            have h55 : w9[5]? = some (a.aF, aI G 60 (rI st.Fr)) := by rw [hw9]; rfl
            have h56 : w9[6]? = some (a.aG, aI G 60 (rI st.Gn)) := by rw [hw9]; rfl
            refine lv_iload_n hx hb d_M_solve_35 rfl (lv_at hl 0 rfl) ?_
            refine lv_aload_n hx hb d_M_solve_36 rfl (lv_at hl 1 rfl) ?_
            refine va_get (D := xD G) (ci := 5) (C := R_M) (T := F_M) (N := 19) hx hb ht in_M hown hK hP 0 h52 rfl 8 (by decide) (ht _ k_fl_M_28) (fun _ h9 => h9) rfl d_M_solve_37 ?_
            refine x_ge hx hb v st.va rfl rfl (by omega) (by omega) (tgt := 210) d_M_solve_40 (by decide) (fun c57 => ?_) (fun c57 => ?_)
            · exact False.elim (by omega)
            · obtain ⟨g1, g2, g3, g4, g5⟩ := hM.2.1.2.2.2 v hv1 (by omega)
              have hk9 : st.Hw v = 0 ∨ st.Hw v = 1 ∨ st.Hw v = 2 ∨ st.Hw v = 3 ∨ st.Hw v = 4 := by omega
              rcases hk9 with hk | hk | hk | hk | hk
              · refine lv_aload_n hx hb d_M_solve_43 rfl (lv_at hl 1 rfl) ?_
                refine va_get (D := xD G) (ci := 5) (C := R_M) (T := F_M) (N := 19) hx hb ht in_M hown hK hP 0 h52 rfl 5 (by decide) (ht _ k_fl_M_19) (fun _ h9 => h9) rfl d_M_solve_44 ?_
                refine lv_iload_n hx hb d_M_solve_47 rfl (lv_at hl 0 rfl) ?_
                refine x_iald hx hb hK hP h54 v rfl (by omega) (by omega) d_M_solve_48 ?_
                refine x_top (nI (st.Hw v)) (rfl) ?_
                refine x_top (nI 0) (by rw [hk]) ?_
                refine x_if_ne hx hb 0 rfl (by decide) (tgt := 56) d_M_solve_49 (by decide) (fun c58 => ?_) (fun c58 => ?_)
                · exact False.elim (by omega)
                refine lv_iconst (v := (nI 0)) hx hb d_M_solve_52 (by decide) ?_
                refine lv_goto (tgt := 71) hx hb d_M_solve_53 (by decide) ?_
                refine lv_istore_n (lv' := [(2, .int (nI 0)), (1, .int (nI v)), (0, .ref a.m)]) hx hb d_M_solve_71 rfl hl (by decide) rfl (fun ls hl => ?_)
                refine lv_aload_n hx hb d_M_solve_72 rfl (lv_at hl 2 rfl) ?_
                refine va_get (D := xD G) (ci := 5) (C := R_M) (T := F_M) (N := 19) hx hb ht in_M hown hK hP 0 h52 rfl 5 (by decide) (ht _ k_fl_M_19) (fun _ h9 => h9) rfl d_M_solve_73 ?_
                refine lv_iload_n hx hb d_M_solve_76 rfl (lv_at hl 1 rfl) ?_
                refine x_iald hx hb hK hP h54 v rfl (by omega) (by omega) d_M_solve_77 ?_
                refine x_top (nI (st.Hw v)) (rfl) ?_
                refine x_top (nI 0) (by rw [hk]) ?_
                refine lv_iconst (v := (nI 2)) hx hb d_M_solve_78 (by decide) ?_
                refine x_ne hx hb 0 2 rfl rfl (by decide) (by decide) (tgt := 92) d_M_solve_79 (by decide) (fun c59 => ?_) (fun c59 => ?_)
                rotate_left
                · exact False.elim (by omega)
                refine lv_aload_n hx hb d_M_solve_92 rfl (lv_at hl 2 rfl) ?_
                refine va_get (D := xD G) (ci := 5) (C := R_M) (T := F_M) (N := 19) hx hb ht in_M hown hK hP 0 h52 rfl 5 (by decide) (ht _ k_fl_M_19) (fun _ h9 => h9) rfl d_M_solve_93 ?_
                refine lv_iload_n hx hb d_M_solve_96 rfl (lv_at hl 1 rfl) ?_
                refine x_iald hx hb hK hP h54 v rfl (by omega) (by omega) d_M_solve_97 ?_
                refine x_top (nI (st.Hw v)) (rfl) ?_
                refine x_top (nI 0) (by rw [hk]) ?_
                refine x_if_ne hx hb 0 rfl (by decide) (tgt := 113) d_M_solve_98 (by decide) (fun c60 => ?_) (fun c60 => ?_)
                · exact False.elim (by omega)
                refine lv_aload_n hx hb d_M_solve_101 rfl (lv_at hl 2 rfl) ?_
                refine va_get (D := xD G) (ci := 5) (C := R_M) (T := F_M) (N := 19) hx hb ht in_M hown hK hP 0 h52 rfl 14 (by decide) (ht _ k_fl_M_44) (fun _ h9 => h9) rfl d_M_solve_102 ?_
                refine lv_iload_n hx hb d_M_solve_105 rfl (lv_at hl 1 rfl) ?_
                refine lv_aload_n hx hb d_M_solve_106 rfl (lv_at hl 2 rfl) ?_
                refine va_get (D := xD G) (ci := 5) (C := R_M) (T := F_M) (N := 19) hx hb ht in_M hown hK hP 0 h52 rfl 7 (by decide) (ht _ k_fl_M_25) (fun _ h9 => h9) rfl d_M_solve_107 ?_
                refine lv_iload_n hx hb d_M_solve_110 rfl (lv_at hl 1 rfl) ?_
                refine x_iald hx hb hK hP h56 v rfl (by omega) (by omega) d_M_solve_111 ?_
                refine x_top (nI (st.Gn v)) (rfl) ?_
                refine x_top (nI (vAt V v).2.2.2) (by rw [g3]) ?_
                refine x_iast hx hb hK hP hD hS h53 v rfl (by omega) (by omega) d_M_solve_112 (fun H locs hP hD hS => ?_)
                have hP : va_P (xD G) CL (w9.set 11 (a.aB, aI G 60 (upd (rI bv) v (nI (vAt V v).2.2.2)))) H := hP
                have hD : va_D A (w9.set 11 (a.aB, aI G 60 (upd (rI bv) v (nI (vAt V v).2.2.2)))) := hD
                obtain ⟨w61, e_w61⟩ : ∃ zz : va_W, zz = w9.set 11 (a.aB, aI G 60 (upd (rI bv) v (nI (vAt V v).2.2.2))) := ⟨_, rfl⟩
                rw [← e_w61] at hP hD
                have h62 : w61[11]? = some (a.aB, aI G 60 (upd (rI bv) v (nI (vAt V v).2.2.2))) := by rw [e_w61]; exact w_eq h53
                have E63 : w61 = mW G a (⟨0, st.ex, st.va, st.co, st.sv, st.kn, st.kc, st.S, st.Kd, st.In, st.Hw, st.Fr, st.Gn, st.R, st.L, st.T, st.O, (va_up bv v ((vAt V v).2.2.2)), st.W⟩ : MS) := by rw [e_w61, hw9, up_rI]; exact mW_B
                have h64 : w61[0]? = some (a.m, .inr (5, [.int (nI 0), .ref a.aS, .ref a.aK, .ref a.aI, .int (nI st.ex), .ref a.aH, .ref a.aF, .ref a.aG, .int (nI st.va), .ref a.aR, .int (nI st.co), .ref a.aL, .ref a.aT, .ref a.aO, .ref a.aB, .ref a.aW, .int (nI st.sv), .int (nI st.kn), .int (nI st.kc)])) := by rw [E63]; rfl
                have h65 : w61[11]? = some (a.aB, aI G 60 (rI (va_up bv v ((vAt V v).2.2.2)))) := by rw [E63]; rfl
                have h66 : w61[4]? = some (a.aH, aI G 60 (rI st.Hw)) := by rw [E63]; rfl
                have h67 : w61[5]? = some (a.aF, aI G 60 (rI st.Fr)) := by rw [E63]; rfl
                have h68 : w61[6]? = some (a.aG, aI G 60 (rI st.Gn)) := by rw [E63]; rfl
                refine lv_aload_n hx hb d_M_solve_113 rfl (lv_at hl 2 rfl) ?_
                refine va_get (D := xD G) (ci := 5) (C := R_M) (T := F_M) (N := 19) hx hb ht in_M hown hK hP 0 h64 rfl 5 (by decide) (ht _ k_fl_M_19) (fun _ h9 => h9) rfl d_M_solve_114 ?_
                refine lv_iload_n hx hb d_M_solve_117 rfl (lv_at hl 1 rfl) ?_
                refine x_iald hx hb hK hP h66 v rfl (by omega) (by omega) d_M_solve_118 ?_
                refine x_top (nI (st.Hw v)) (rfl) ?_
                refine x_top (nI 0) (by rw [hk]) ?_
                refine lv_iconst (v := (nI 1)) hx hb d_M_solve_119 (by decide) ?_
                refine x_ne hx hb 0 1 rfl rfl (by decide) (by decide) (tgt := 149) d_M_solve_120 (by decide) (fun c69 => ?_) (fun c69 => ?_)
                rotate_left
                · exact False.elim (by omega)
                refine lv_aload_n hx hb d_M_solve_149 rfl (lv_at hl 2 rfl) ?_
                refine va_get (D := xD G) (ci := 5) (C := R_M) (T := F_M) (N := 19) hx hb ht in_M hown hK hP 0 h64 rfl 5 (by decide) (ht _ k_fl_M_19) (fun _ h9 => h9) rfl d_M_solve_150 ?_
                refine lv_iload_n hx hb d_M_solve_153 rfl (lv_at hl 1 rfl) ?_
                refine x_iald hx hb hK hP h66 v rfl (by omega) (by omega) d_M_solve_154 ?_
                refine x_top (nI (st.Hw v)) (rfl) ?_
                refine x_top (nI 0) (by rw [hk]) ?_
                refine lv_iconst (v := (nI 2)) hx hb d_M_solve_155 (by decide) ?_
                refine x_eq hx hb 0 2 rfl rfl (by decide) (by decide) (tgt := 169) d_M_solve_156 (by decide) (fun c70 => ?_) (fun c70 => ?_)
                · exact False.elim (by omega)
                refine lv_aload_n hx hb d_M_solve_159 rfl (lv_at hl 2 rfl) ?_
                refine va_get (D := xD G) (ci := 5) (C := R_M) (T := F_M) (N := 19) hx hb ht in_M hown hK hP 0 h64 rfl 5 (by decide) (ht _ k_fl_M_19) (fun _ h9 => h9) rfl d_M_solve_160 ?_
                refine lv_iload_n hx hb d_M_solve_163 rfl (lv_at hl 1 rfl) ?_
                refine x_iald hx hb hK hP h66 v rfl (by omega) (by omega) d_M_solve_164 ?_
                refine x_top (nI (st.Hw v)) (rfl) ?_
                refine x_top (nI 0) (by rw [hk]) ?_
                refine lv_iconst (v := (nI 3)) hx hb d_M_solve_165 (by decide) ?_
                refine x_ne hx hb 0 3 rfl rfl (by decide) (by decide) (tgt := 179) d_M_solve_166 (by decide) (fun c71 => ?_) (fun c71 => ?_)
                rotate_left
                · exact False.elim (by omega)
                refine lv_aload_n hx hb d_M_solve_179 rfl (lv_at hl 2 rfl) ?_
                refine va_get (D := xD G) (ci := 5) (C := R_M) (T := F_M) (N := 19) hx hb ht in_M hown hK hP 0 h64 rfl 5 (by decide) (ht _ k_fl_M_19) (fun _ h9 => h9) rfl d_M_solve_180 ?_
                refine lv_iload_n hx hb d_M_solve_183 rfl (lv_at hl 1 rfl) ?_
                refine x_iald hx hb hK hP h66 v rfl (by omega) (by omega) d_M_solve_184 ?_
                refine x_top (nI (st.Hw v)) (rfl) ?_
                refine x_top (nI 0) (by rw [hk]) ?_
                refine lv_iconst (v := (nI 4)) hx hb d_M_solve_185 (by decide) ?_
                refine x_ne hx hb 0 4 rfl rfl (by decide) (by decide) (tgt := 204) d_M_solve_186 (by decide) (fun c72 => ?_) (fun c72 => ?_)
                rotate_left
                · exact False.elim (by omega)
                refine lv_iinc (v := nI (v + 1)) (lv' := [(1, .int (nI (v + 1))), (2, .int (nI 0)), (0, .ref a.m)]) hx hb d_M_solve_204 hl (k := 1) rfl (n_inc _) (by decide) rfl (fun ls hl => ?_)
                refine lv_goto (tgt := 35) hx hb d_M_solve_207 (by decide) ?_
                exact ih (v + 1) (by omega) (by omega) (va_up bv v ((vAt V v).2.2.2)) (va_up dv v ((vAt V v).2.2.2)) w61 H locs ls E63 (fun j hj => by unfold va_up; split; exact g4; exact hbv j hj) (fun j hj => by unfold va_up; by_cases q : j = v; rw [if_pos q, if_pos q]; rw [if_neg q, if_neg q]; exact hag j (by omega)) (hfl.trans (fil_some (by unfold num; rw [g1, hk]; rfl))) hP hD hS (lv_sub hl [0, 2] rfl)
              · refine lv_aload_n hx hb d_M_solve_43 rfl (lv_at hl 1 rfl) ?_
                refine va_get (D := xD G) (ci := 5) (C := R_M) (T := F_M) (N := 19) hx hb ht in_M hown hK hP 0 h52 rfl 5 (by decide) (ht _ k_fl_M_19) (fun _ h9 => h9) rfl d_M_solve_44 ?_
                refine lv_iload_n hx hb d_M_solve_47 rfl (lv_at hl 0 rfl) ?_
                refine x_iald hx hb hK hP h54 v rfl (by omega) (by omega) d_M_solve_48 ?_
                refine x_top (nI (st.Hw v)) (rfl) ?_
                refine x_top (nI 1) (by rw [hk]) ?_
                refine x_if_ne hx hb 1 rfl (by decide) (tgt := 56) d_M_solve_49 (by decide) (fun c73 => ?_) (fun c73 => ?_)
                rotate_left
                · exact False.elim (by omega)
                obtain ⟨f1, f2, f3, f4⟩ := g5 (by omega)
                refine lv_aload_n hx hb d_M_solve_56 rfl (lv_at hl 1 rfl) ?_
                refine lv_aload_n hx hb d_M_solve_57 rfl (lv_at hl 1 rfl) ?_
                refine va_get (D := xD G) (ci := 5) (C := R_M) (T := F_M) (N := 19) hx hb ht in_M hown hK hP 0 h52 rfl 6 (by decide) (ht _ k_fl_M_22) (fun _ h9 => h9) rfl d_M_solve_58 ?_
                refine lv_iload_n hx hb d_M_solve_61 rfl (lv_at hl 0 rfl) ?_
                refine x_iald hx hb hK hP h55 v rfl (by omega) (by omega) d_M_solve_62 ?_
                refine x_top (nI (st.Fr v)) (rfl) ?_
                refine lv_iconst (v := (nI 0)) hx hb d_M_solve_63 (by decide) ?_
                refine lv_aload_n hx hb d_M_solve_64 rfl (lv_at hl 1 rfl) ?_
                refine va_get (D := xD G) (ci := 5) (C := R_M) (T := F_M) (N := 19) hx hb ht in_M hown hK hP 0 h52 rfl 14 (by decide) (ht _ k_fl_M_44) (fun _ h9 => h9) rfl d_M_solve_65 ?_
                have bR0 : ∀ j, j < 60 → st.R (180 * st.Fr v + 60 * 0 + j) = (vAt V v).2.1 j := fun j hj => (hM.1.2 (st.Fr v) 0 j f1 (by decide) hj).1.trans (f2 j hj).symm
                have eA0 : vl (fun j => st.R (180 * st.Fr v + 60 * 0 + j)) bv = vl (vAt V v).2.1 dv := vl_c bR0 (fun j hj q => hag j (by by_cases q2 : j < v; exact q2; exact absurd (f3 j (by omega) hj) q))
                refine x_calli (va_runV (As := [.int (nI (st.Fr v)), .int (nI 0), .ref a.aB]) (rest := []) ⟨hx, hb, hml, hown, ht⟩ (c_M_valueOf l G A w9 a (⟨0, st.ex, st.va, st.co, st.sv, st.kn, st.kc, st.S, st.Kd, st.In, st.Hw, st.Fr, st.Gn, st.R, st.L, st.T, st.O, bv, st.W⟩ : MS) hw9 11 a.aB bv h53 (by decide) (st.Fr v) 0 (by omega) (by decide) hbv (fun j hj => by have := (hM.1.2 (st.Fr v) 0 j f1 (by decide) hj); show st.R _ < 97; rw [this.1]; exact this.2.1)) (cwV 3 ht (TW_V k_ml_M_128 k_im_M_valueOf k_se_M_valueOf k_in_M k_code_M_valueOf) rfl rfl rfl hv_M_valueOf ⟨Nat.le_of_ble_eq_true rfl, Nat.le_of_ble_eq_true rfl⟩) ⟨x_blind, va_recv hK hP rfl h52, x_pre hE hA hS hP hD⟩ rfl rfl hl.1 rfl (lv_room (Nat.le_of_ble_eq_true rfl)) d_M_solve_68 ⟨Nat.le_of_ble_eq_true rfl, Nat.le_of_ble_eq_true rfl⟩) hS (fun r76 w75 H locs q74 hP hD hS => ?_)
                obtain ⟨rfl, rfl⟩ := q74
                refine x_top (nI (vl (vAt V v).2.1 dv)) (congrArg nI eA0) ?_
                have vb0 := vl_lt (vAt V v).2.1 dv
                refine lv_istore_n (lv' := [(2, .int (nI (vl (vAt V v).2.1 dv))), (1, .int (nI v)), (0, .ref a.m)]) hx hb d_M_solve_71 rfl hl (by decide) rfl (fun ls hl => ?_)
                refine lv_aload_n hx hb d_M_solve_72 rfl (lv_at hl 2 rfl) ?_
                refine va_get (D := xD G) (ci := 5) (C := R_M) (T := F_M) (N := 19) hx hb ht in_M hown hK hP 0 h52 rfl 5 (by decide) (ht _ k_fl_M_19) (fun _ h9 => h9) rfl d_M_solve_73 ?_
                refine lv_iload_n hx hb d_M_solve_76 rfl (lv_at hl 1 rfl) ?_
                refine x_iald hx hb hK hP h54 v rfl (by omega) (by omega) d_M_solve_77 ?_
                refine x_top (nI (st.Hw v)) (rfl) ?_
                refine x_top (nI 1) (by rw [hk]) ?_
                refine lv_iconst (v := (nI 2)) hx hb d_M_solve_78 (by decide) ?_
                refine x_ne hx hb 1 2 rfl rfl (by decide) (by decide) (tgt := 92) d_M_solve_79 (by decide) (fun c77 => ?_) (fun c77 => ?_)
                rotate_left
                · exact False.elim (by omega)
                refine lv_aload_n hx hb d_M_solve_92 rfl (lv_at hl 2 rfl) ?_
                refine va_get (D := xD G) (ci := 5) (C := R_M) (T := F_M) (N := 19) hx hb ht in_M hown hK hP 0 h52 rfl 5 (by decide) (ht _ k_fl_M_19) (fun _ h9 => h9) rfl d_M_solve_93 ?_
                refine lv_iload_n hx hb d_M_solve_96 rfl (lv_at hl 1 rfl) ?_
                refine x_iald hx hb hK hP h54 v rfl (by omega) (by omega) d_M_solve_97 ?_
                refine x_top (nI (st.Hw v)) (rfl) ?_
                refine x_top (nI 1) (by rw [hk]) ?_
                refine x_if_ne hx hb 1 rfl (by decide) (tgt := 113) d_M_solve_98 (by decide) (fun c78 => ?_) (fun c78 => ?_)
                rotate_left
                · exact False.elim (by omega)
                refine lv_aload_n hx hb d_M_solve_113 rfl (lv_at hl 2 rfl) ?_
                refine va_get (D := xD G) (ci := 5) (C := R_M) (T := F_M) (N := 19) hx hb ht in_M hown hK hP 0 h52 rfl 5 (by decide) (ht _ k_fl_M_19) (fun _ h9 => h9) rfl d_M_solve_114 ?_
                refine lv_iload_n hx hb d_M_solve_117 rfl (lv_at hl 1 rfl) ?_
                refine x_iald hx hb hK hP h54 v rfl (by omega) (by omega) d_M_solve_118 ?_
                refine x_top (nI (st.Hw v)) (rfl) ?_
                refine x_top (nI 1) (by rw [hk]) ?_
                refine lv_iconst (v := (nI 1)) hx hb d_M_solve_119 (by decide) ?_
                refine x_ne hx hb 1 1 rfl rfl (by decide) (by decide) (tgt := 149) d_M_solve_120 (by decide) (fun c79 => ?_) (fun c79 => ?_)
                · exact False.elim (by omega)
                obtain ⟨f5, f6⟩ := f4 hk
                refine lv_aload_n hx hb d_M_solve_123 rfl (lv_at hl 2 rfl) ?_
                refine va_get (D := xD G) (ci := 5) (C := R_M) (T := F_M) (N := 19) hx hb ht in_M hown hK hP 0 h52 rfl 14 (by decide) (ht _ k_fl_M_44) (fun _ h9 => h9) rfl d_M_solve_124 ?_
                refine lv_iload_n hx hb d_M_solve_127 rfl (lv_at hl 1 rfl) ?_
                refine lv_iload_n hx hb d_M_solve_128 rfl (lv_at hl 0 rfl) ?_
                refine lv_aload_n hx hb d_M_solve_129 rfl (lv_at hl 2 rfl) ?_
                refine lv_aload_n hx hb d_M_solve_130 rfl (lv_at hl 2 rfl) ?_
                refine va_get (D := xD G) (ci := 5) (C := R_M) (T := F_M) (N := 19) hx hb ht in_M hown hK hP 0 h52 rfl 6 (by decide) (ht _ k_fl_M_22) (fun _ h9 => h9) rfl d_M_solve_131 ?_
                refine lv_iload_n hx hb d_M_solve_134 rfl (lv_at hl 1 rfl) ?_
                refine x_iald hx hb hK hP h55 v rfl (by omega) (by omega) d_M_solve_135 ?_
                refine x_top (nI (st.Fr v)) (rfl) ?_
                refine lv_iconst (v := (nI 1)) hx hb d_M_solve_136 (by decide) ?_
                refine lv_aload_n hx hb d_M_solve_137 rfl (lv_at hl 2 rfl) ?_
                refine va_get (D := xD G) (ci := 5) (C := R_M) (T := F_M) (N := 19) hx hb ht in_M hown hK hP 0 h52 rfl 14 (by decide) (ht _ k_fl_M_44) (fun _ h9 => h9) rfl d_M_solve_138 ?_
                have bR1 : ∀ j, j < 60 → st.R (180 * st.Fr v + 60 * 1 + j) = (vAt V v).2.2.1 j := fun j hj => (hM.1.2 (st.Fr v) 1 j f1 (by decide) hj).1.trans (f5 j hj).symm
                have eA1 : vl (fun j => st.R (180 * st.Fr v + 60 * 1 + j)) bv = vl (vAt V v).2.2.1 dv := vl_c bR1 (fun j hj q => hag j (by by_cases q2 : j < v; exact q2; exact absurd (f6 j (by omega) hj) q))
                refine x_calli (va_runV (As := [.int (nI (st.Fr v)), .int (nI 1), .ref a.aB]) (rest := [.int (nI (vl (vAt V v).2.1 dv)), .int (nI v), .ref a.aB]) ⟨hx, hb, hml, hown, ht⟩ (c_M_valueOf l G A w9 a (⟨0, st.ex, st.va, st.co, st.sv, st.kn, st.kc, st.S, st.Kd, st.In, st.Hw, st.Fr, st.Gn, st.R, st.L, st.T, st.O, bv, st.W⟩ : MS) hw9 11 a.aB bv h53 (by decide) (st.Fr v) 1 (by omega) (by decide) hbv (fun j hj => by have := (hM.1.2 (st.Fr v) 1 j f1 (by decide) hj); show st.R _ < 97; rw [this.1]; exact this.2.1)) (cwV 3 ht (TW_V k_ml_M_128 k_im_M_valueOf k_se_M_valueOf k_in_M k_code_M_valueOf) rfl rfl rfl hv_M_valueOf ⟨Nat.le_of_ble_eq_true rfl, Nat.le_of_ble_eq_true rfl⟩) ⟨x_blind, va_recv hK hP rfl h52, x_pre hE hA hS hP hD⟩ rfl rfl hl.1 rfl (lv_room (Nat.le_of_ble_eq_true rfl)) d_M_solve_141 ⟨Nat.le_of_ble_eq_true rfl, Nat.le_of_ble_eq_true rfl⟩) hS (fun r82 w81 H locs q80 hP hD hS => ?_)
                obtain ⟨rfl, rfl⟩ := q80
                refine x_top (nI (vl (vAt V v).2.2.1 dv)) (congrArg nI eA1) ?_
                have vb1 := vl_lt (vAt V v).2.2.1 dv
                have m9 : vl (vAt V v).2.1 dv * vl (vAt V v).2.2.1 dv ≤ 96 * 96 := Nat.mul_le_mul (by omega) (by omega)
                refine lv_imul hx hb d_M_solve_144 ?_
                refine x_top (nI ((vl (vAt V v).2.1 dv) * (vl (vAt V v).2.2.1 dv))) (pk_mul _ _) ?_
                refine lv_bipush (v := (nI 97)) hx hb d_M_solve_145 (by decide) ?_
                refine lv_irem hx hb d_M_solve_147 (by decide) ?_
                refine x_top (nI (((vl (vAt V v).2.1 dv) * (vl (vAt V v).2.2.1 dv)) % 97)) (pk_rem (by omega) (by omega) (by omega)) ?_
                refine x_iast hx hb hK hP hD hS h53 v rfl (by omega) (by omega) d_M_solve_148 (fun H locs hP hD hS => ?_)
                have hP : va_P (xD G) CL (w9.set 11 (a.aB, aI G 60 (upd (rI bv) v (nI (((vl (vAt V v).2.1 dv) * (vl (vAt V v).2.2.1 dv)) % 97))))) H := hP
                have hD : va_D A (w9.set 11 (a.aB, aI G 60 (upd (rI bv) v (nI (((vl (vAt V v).2.1 dv) * (vl (vAt V v).2.2.1 dv)) % 97))))) := hD
                obtain ⟨w83, e_w83⟩ : ∃ zz : va_W, zz = w9.set 11 (a.aB, aI G 60 (upd (rI bv) v (nI (((vl (vAt V v).2.1 dv) * (vl (vAt V v).2.2.1 dv)) % 97)))) := ⟨_, rfl⟩
                rw [← e_w83] at hP hD
                have h84 : w83[11]? = some (a.aB, aI G 60 (upd (rI bv) v (nI (((vl (vAt V v).2.1 dv) * (vl (vAt V v).2.2.1 dv)) % 97)))) := by rw [e_w83]; exact w_eq h53
                have E85 : w83 = mW G a (⟨0, st.ex, st.va, st.co, st.sv, st.kn, st.kc, st.S, st.Kd, st.In, st.Hw, st.Fr, st.Gn, st.R, st.L, st.T, st.O, (va_up bv v (((vl (vAt V v).2.1 dv) * (vl (vAt V v).2.2.1 dv)) % 97)), st.W⟩ : MS) := by rw [e_w83, hw9, up_rI]; exact mW_B
                have h86 : w83[0]? = some (a.m, .inr (5, [.int (nI 0), .ref a.aS, .ref a.aK, .ref a.aI, .int (nI st.ex), .ref a.aH, .ref a.aF, .ref a.aG, .int (nI st.va), .ref a.aR, .int (nI st.co), .ref a.aL, .ref a.aT, .ref a.aO, .ref a.aB, .ref a.aW, .int (nI st.sv), .int (nI st.kn), .int (nI st.kc)])) := by rw [E85]; rfl
                have h87 : w83[11]? = some (a.aB, aI G 60 (rI (va_up bv v (((vl (vAt V v).2.1 dv) * (vl (vAt V v).2.2.1 dv)) % 97)))) := by rw [E85]; rfl
                have h88 : w83[4]? = some (a.aH, aI G 60 (rI st.Hw)) := by rw [E85]; rfl
                have h89 : w83[5]? = some (a.aF, aI G 60 (rI st.Fr)) := by rw [E85]; rfl
                have h90 : w83[6]? = some (a.aG, aI G 60 (rI st.Gn)) := by rw [E85]; rfl
                refine lv_aload_n hx hb d_M_solve_149 rfl (lv_at hl 2 rfl) ?_
                refine va_get (D := xD G) (ci := 5) (C := R_M) (T := F_M) (N := 19) hx hb ht in_M hown hK hP 0 h86 rfl 5 (by decide) (ht _ k_fl_M_19) (fun _ h9 => h9) rfl d_M_solve_150 ?_
                refine lv_iload_n hx hb d_M_solve_153 rfl (lv_at hl 1 rfl) ?_
                refine x_iald hx hb hK hP h88 v rfl (by omega) (by omega) d_M_solve_154 ?_
                refine x_top (nI (st.Hw v)) (rfl) ?_
                refine x_top (nI 1) (by rw [hk]) ?_
                refine lv_iconst (v := (nI 2)) hx hb d_M_solve_155 (by decide) ?_
                refine x_eq hx hb 1 2 rfl rfl (by decide) (by decide) (tgt := 169) d_M_solve_156 (by decide) (fun c91 => ?_) (fun c91 => ?_)
                · exact False.elim (by omega)
                refine lv_aload_n hx hb d_M_solve_159 rfl (lv_at hl 2 rfl) ?_
                refine va_get (D := xD G) (ci := 5) (C := R_M) (T := F_M) (N := 19) hx hb ht in_M hown hK hP 0 h86 rfl 5 (by decide) (ht _ k_fl_M_19) (fun _ h9 => h9) rfl d_M_solve_160 ?_
                refine lv_iload_n hx hb d_M_solve_163 rfl (lv_at hl 1 rfl) ?_
                refine x_iald hx hb hK hP h88 v rfl (by omega) (by omega) d_M_solve_164 ?_
                refine x_top (nI (st.Hw v)) (rfl) ?_
                refine x_top (nI 1) (by rw [hk]) ?_
                refine lv_iconst (v := (nI 3)) hx hb d_M_solve_165 (by decide) ?_
                refine x_ne hx hb 1 3 rfl rfl (by decide) (by decide) (tgt := 179) d_M_solve_166 (by decide) (fun c92 => ?_) (fun c92 => ?_)
                rotate_left
                · exact False.elim (by omega)
                refine lv_aload_n hx hb d_M_solve_179 rfl (lv_at hl 2 rfl) ?_
                refine va_get (D := xD G) (ci := 5) (C := R_M) (T := F_M) (N := 19) hx hb ht in_M hown hK hP 0 h86 rfl 5 (by decide) (ht _ k_fl_M_19) (fun _ h9 => h9) rfl d_M_solve_180 ?_
                refine lv_iload_n hx hb d_M_solve_183 rfl (lv_at hl 1 rfl) ?_
                refine x_iald hx hb hK hP h88 v rfl (by omega) (by omega) d_M_solve_184 ?_
                refine x_top (nI (st.Hw v)) (rfl) ?_
                refine x_top (nI 1) (by rw [hk]) ?_
                refine lv_iconst (v := (nI 4)) hx hb d_M_solve_185 (by decide) ?_
                refine x_ne hx hb 1 4 rfl rfl (by decide) (by decide) (tgt := 204) d_M_solve_186 (by decide) (fun c93 => ?_) (fun c93 => ?_)
                rotate_left
                · exact False.elim (by omega)
                refine lv_iinc (v := nI (v + 1)) (lv' := [(1, .int (nI (v + 1))), (2, .int (nI (vl (vAt V v).2.1 dv))), (0, .ref a.m)]) hx hb d_M_solve_204 hl (k := 1) rfl (n_inc _) (by decide) rfl (fun ls hl => ?_)
                refine lv_goto (tgt := 35) hx hb d_M_solve_207 (by decide) ?_
                exact ih (v + 1) (by omega) (by omega) (va_up bv v (vl (vAt V v).2.1 dv * vl (vAt V v).2.2.1 dv % 97)) (va_up dv v (vl (vAt V v).2.1 dv * vl (vAt V v).2.2.1 dv % 97)) w83 H locs ls E85 (fun j hj => by unfold va_up; split; exact Nat.mod_lt _ (by decide); exact hbv j hj) (fun j hj => by unfold va_up; by_cases q : j = v; rw [if_pos q, if_pos q]; rw [if_neg q, if_neg q]; exact hag j (by omega)) (hfl.trans (fil_some (by unfold num; rw [g1, hk]; rfl))) hP hD hS (lv_sub hl [0, 2] rfl)
              · refine lv_aload_n hx hb d_M_solve_43 rfl (lv_at hl 1 rfl) ?_
                refine va_get (D := xD G) (ci := 5) (C := R_M) (T := F_M) (N := 19) hx hb ht in_M hown hK hP 0 h52 rfl 5 (by decide) (ht _ k_fl_M_19) (fun _ h9 => h9) rfl d_M_solve_44 ?_
                refine lv_iload_n hx hb d_M_solve_47 rfl (lv_at hl 0 rfl) ?_
                refine x_iald hx hb hK hP h54 v rfl (by omega) (by omega) d_M_solve_48 ?_
                refine x_top (nI (st.Hw v)) (rfl) ?_
                refine x_top (nI 2) (by rw [hk]) ?_
                refine x_if_ne hx hb 2 rfl (by decide) (tgt := 56) d_M_solve_49 (by decide) (fun c94 => ?_) (fun c94 => ?_)
                rotate_left
                · exact False.elim (by omega)
                obtain ⟨f1, f2, f3, f4⟩ := g5 (by omega)
                refine lv_aload_n hx hb d_M_solve_56 rfl (lv_at hl 1 rfl) ?_
                refine lv_aload_n hx hb d_M_solve_57 rfl (lv_at hl 1 rfl) ?_
                refine va_get (D := xD G) (ci := 5) (C := R_M) (T := F_M) (N := 19) hx hb ht in_M hown hK hP 0 h52 rfl 6 (by decide) (ht _ k_fl_M_22) (fun _ h9 => h9) rfl d_M_solve_58 ?_
                refine lv_iload_n hx hb d_M_solve_61 rfl (lv_at hl 0 rfl) ?_
                refine x_iald hx hb hK hP h55 v rfl (by omega) (by omega) d_M_solve_62 ?_
                refine x_top (nI (st.Fr v)) (rfl) ?_
                refine lv_iconst (v := (nI 0)) hx hb d_M_solve_63 (by decide) ?_
                refine lv_aload_n hx hb d_M_solve_64 rfl (lv_at hl 1 rfl) ?_
                refine va_get (D := xD G) (ci := 5) (C := R_M) (T := F_M) (N := 19) hx hb ht in_M hown hK hP 0 h52 rfl 14 (by decide) (ht _ k_fl_M_44) (fun _ h9 => h9) rfl d_M_solve_65 ?_
                have bR0 : ∀ j, j < 60 → st.R (180 * st.Fr v + 60 * 0 + j) = (vAt V v).2.1 j := fun j hj => (hM.1.2 (st.Fr v) 0 j f1 (by decide) hj).1.trans (f2 j hj).symm
                have eA0 : vl (fun j => st.R (180 * st.Fr v + 60 * 0 + j)) bv = vl (vAt V v).2.1 dv := vl_c bR0 (fun j hj q => hag j (by by_cases q2 : j < v; exact q2; exact absurd (f3 j (by omega) hj) q))
                refine x_calli (va_runV (As := [.int (nI (st.Fr v)), .int (nI 0), .ref a.aB]) (rest := []) ⟨hx, hb, hml, hown, ht⟩ (c_M_valueOf l G A w9 a (⟨0, st.ex, st.va, st.co, st.sv, st.kn, st.kc, st.S, st.Kd, st.In, st.Hw, st.Fr, st.Gn, st.R, st.L, st.T, st.O, bv, st.W⟩ : MS) hw9 11 a.aB bv h53 (by decide) (st.Fr v) 0 (by omega) (by decide) hbv (fun j hj => by have := (hM.1.2 (st.Fr v) 0 j f1 (by decide) hj); show st.R _ < 97; rw [this.1]; exact this.2.1)) (cwV 3 ht (TW_V k_ml_M_128 k_im_M_valueOf k_se_M_valueOf k_in_M k_code_M_valueOf) rfl rfl rfl hv_M_valueOf ⟨Nat.le_of_ble_eq_true rfl, Nat.le_of_ble_eq_true rfl⟩) ⟨x_blind, va_recv hK hP rfl h52, x_pre hE hA hS hP hD⟩ rfl rfl hl.1 rfl (lv_room (Nat.le_of_ble_eq_true rfl)) d_M_solve_68 ⟨Nat.le_of_ble_eq_true rfl, Nat.le_of_ble_eq_true rfl⟩) hS (fun r97 w96 H locs q95 hP hD hS => ?_)
                obtain ⟨rfl, rfl⟩ := q95
                refine x_top (nI (vl (vAt V v).2.1 dv)) (congrArg nI eA0) ?_
                have vb0 := vl_lt (vAt V v).2.1 dv
                refine lv_istore_n (lv' := [(2, .int (nI (vl (vAt V v).2.1 dv))), (1, .int (nI v)), (0, .ref a.m)]) hx hb d_M_solve_71 rfl hl (by decide) rfl (fun ls hl => ?_)
                refine lv_aload_n hx hb d_M_solve_72 rfl (lv_at hl 2 rfl) ?_
                refine va_get (D := xD G) (ci := 5) (C := R_M) (T := F_M) (N := 19) hx hb ht in_M hown hK hP 0 h52 rfl 5 (by decide) (ht _ k_fl_M_19) (fun _ h9 => h9) rfl d_M_solve_73 ?_
                refine lv_iload_n hx hb d_M_solve_76 rfl (lv_at hl 1 rfl) ?_
                refine x_iald hx hb hK hP h54 v rfl (by omega) (by omega) d_M_solve_77 ?_
                refine x_top (nI (st.Hw v)) (rfl) ?_
                refine x_top (nI 2) (by rw [hk]) ?_
                refine lv_iconst (v := (nI 2)) hx hb d_M_solve_78 (by decide) ?_
                refine x_ne hx hb 2 2 rfl rfl (by decide) (by decide) (tgt := 92) d_M_solve_79 (by decide) (fun c98 => ?_) (fun c98 => ?_)
                · exact False.elim (by omega)
                refine lv_iload_n hx hb d_M_solve_82 rfl (lv_at hl 0 rfl) ?_
                refine x_if_ne hx hb (vl (vAt V v).2.1 dv) rfl (by omega) (tgt := 92) d_M_solve_83 (by decide) (fun c99 => ?_) (fun c99 => ?_)
                · have cnz := c99
                  refine lv_aload_n hx hb d_M_solve_92 rfl (lv_at hl 2 rfl) ?_
                  refine va_get (D := xD G) (ci := 5) (C := R_M) (T := F_M) (N := 19) hx hb ht in_M hown hK hP 0 h52 rfl 5 (by decide) (ht _ k_fl_M_19) (fun _ h9 => h9) rfl d_M_solve_93 ?_
                  refine lv_iload_n hx hb d_M_solve_96 rfl (lv_at hl 1 rfl) ?_
                  refine x_iald hx hb hK hP h54 v rfl (by omega) (by omega) d_M_solve_97 ?_
                  refine x_top (nI (st.Hw v)) (rfl) ?_
                  refine x_top (nI 2) (by rw [hk]) ?_
                  refine x_if_ne hx hb 2 rfl (by decide) (tgt := 113) d_M_solve_98 (by decide) (fun c100 => ?_) (fun c100 => ?_)
                  rotate_left
                  · exact False.elim (by omega)
                  refine lv_aload_n hx hb d_M_solve_113 rfl (lv_at hl 2 rfl) ?_
                  refine va_get (D := xD G) (ci := 5) (C := R_M) (T := F_M) (N := 19) hx hb ht in_M hown hK hP 0 h52 rfl 5 (by decide) (ht _ k_fl_M_19) (fun _ h9 => h9) rfl d_M_solve_114 ?_
                  refine lv_iload_n hx hb d_M_solve_117 rfl (lv_at hl 1 rfl) ?_
                  refine x_iald hx hb hK hP h54 v rfl (by omega) (by omega) d_M_solve_118 ?_
                  refine x_top (nI (st.Hw v)) (rfl) ?_
                  refine x_top (nI 2) (by rw [hk]) ?_
                  refine lv_iconst (v := (nI 1)) hx hb d_M_solve_119 (by decide) ?_
                  refine x_ne hx hb 2 1 rfl rfl (by decide) (by decide) (tgt := 149) d_M_solve_120 (by decide) (fun c101 => ?_) (fun c101 => ?_)
                  rotate_left
                  · exact False.elim (by omega)
                  refine lv_aload_n hx hb d_M_solve_149 rfl (lv_at hl 2 rfl) ?_
                  refine va_get (D := xD G) (ci := 5) (C := R_M) (T := F_M) (N := 19) hx hb ht in_M hown hK hP 0 h52 rfl 5 (by decide) (ht _ k_fl_M_19) (fun _ h9 => h9) rfl d_M_solve_150 ?_
                  refine lv_iload_n hx hb d_M_solve_153 rfl (lv_at hl 1 rfl) ?_
                  refine x_iald hx hb hK hP h54 v rfl (by omega) (by omega) d_M_solve_154 ?_
                  refine x_top (nI (st.Hw v)) (rfl) ?_
                  refine x_top (nI 2) (by rw [hk]) ?_
                  refine lv_iconst (v := (nI 2)) hx hb d_M_solve_155 (by decide) ?_
                  refine x_eq hx hb 2 2 rfl rfl (by decide) (by decide) (tgt := 169) d_M_solve_156 (by decide) (fun c102 => ?_) (fun c102 => ?_)
                  rotate_left
                  · exact False.elim (by omega)
                  refine lv_aload_n hx hb d_M_solve_169 rfl (lv_at hl 2 rfl) ?_
                  refine va_get (D := xD G) (ci := 5) (C := R_M) (T := F_M) (N := 19) hx hb ht in_M hown hK hP 0 h52 rfl 14 (by decide) (ht _ k_fl_M_44) (fun _ h9 => h9) rfl d_M_solve_170 ?_
                  refine lv_iload_n hx hb d_M_solve_173 rfl (lv_at hl 1 rfl) ?_
                  refine lv_iload_n hx hb d_M_solve_174 rfl (lv_at hl 0 rfl) ?_
                  refine x_calli (va_runS (As := [.int (nI (vl (vAt V v).2.1 dv))]) (rest := [.int (nI v), .ref a.aB]) ⟨hx, hb, hml, hown, ht⟩ (c_M_inverse l G A w9 (vl (vAt V v).2.1 dv) vb0) (va_cwS 1 ht (TW_S k_ml_M_132 k_st_M_inverse k_in_M k_code_M_inverse) rfl rfl rfl hv_M_inverse.2 ⟨Nat.le_of_ble_eq_true rfl, Nat.le_of_ble_eq_true rfl⟩) ⟨x_blind, x_pre hE hA hS hP hD⟩ rfl rfl hl.1 rfl (lv_room (Nat.le_of_ble_eq_true rfl)) d_M_solve_175 ⟨Nat.le_of_ble_eq_true rfl, Nat.le_of_ble_eq_true rfl⟩) hS (fun r105 w104 H locs q103 hP hD hS => ?_)
                  obtain ⟨rfl, rfl⟩ := q103
                  refine x_iast hx hb hK hP hD hS h53 v rfl (by omega) (by omega) d_M_solve_178 (fun H locs hP hD hS => ?_)
                  have hP : va_P (xD G) CL (w9.set 11 (a.aB, aI G 60 (upd (rI bv) v (nI (inv97 (vl (vAt V v).2.1 dv)))))) H := hP
                  have hD : va_D A (w9.set 11 (a.aB, aI G 60 (upd (rI bv) v (nI (inv97 (vl (vAt V v).2.1 dv)))))) := hD
                  obtain ⟨w106, e_w106⟩ : ∃ zz : va_W, zz = w9.set 11 (a.aB, aI G 60 (upd (rI bv) v (nI (inv97 (vl (vAt V v).2.1 dv))))) := ⟨_, rfl⟩
                  rw [← e_w106] at hP hD
                  have h107 : w106[11]? = some (a.aB, aI G 60 (upd (rI bv) v (nI (inv97 (vl (vAt V v).2.1 dv))))) := by rw [e_w106]; exact w_eq h53
                  have E108 : w106 = mW G a (⟨0, st.ex, st.va, st.co, st.sv, st.kn, st.kc, st.S, st.Kd, st.In, st.Hw, st.Fr, st.Gn, st.R, st.L, st.T, st.O, (va_up bv v (inv97 (vl (vAt V v).2.1 dv))), st.W⟩ : MS) := by rw [e_w106, hw9, up_rI]; exact mW_B
                  have h109 : w106[0]? = some (a.m, .inr (5, [.int (nI 0), .ref a.aS, .ref a.aK, .ref a.aI, .int (nI st.ex), .ref a.aH, .ref a.aF, .ref a.aG, .int (nI st.va), .ref a.aR, .int (nI st.co), .ref a.aL, .ref a.aT, .ref a.aO, .ref a.aB, .ref a.aW, .int (nI st.sv), .int (nI st.kn), .int (nI st.kc)])) := by rw [E108]; rfl
                  have h110 : w106[11]? = some (a.aB, aI G 60 (rI (va_up bv v (inv97 (vl (vAt V v).2.1 dv))))) := by rw [E108]; rfl
                  have h111 : w106[4]? = some (a.aH, aI G 60 (rI st.Hw)) := by rw [E108]; rfl
                  have h112 : w106[5]? = some (a.aF, aI G 60 (rI st.Fr)) := by rw [E108]; rfl
                  have h113 : w106[6]? = some (a.aG, aI G 60 (rI st.Gn)) := by rw [E108]; rfl
                  refine lv_aload_n hx hb d_M_solve_179 rfl (lv_at hl 2 rfl) ?_
                  refine va_get (D := xD G) (ci := 5) (C := R_M) (T := F_M) (N := 19) hx hb ht in_M hown hK hP 0 h109 rfl 5 (by decide) (ht _ k_fl_M_19) (fun _ h9 => h9) rfl d_M_solve_180 ?_
                  refine lv_iload_n hx hb d_M_solve_183 rfl (lv_at hl 1 rfl) ?_
                  refine x_iald hx hb hK hP h111 v rfl (by omega) (by omega) d_M_solve_184 ?_
                  refine x_top (nI (st.Hw v)) (rfl) ?_
                  refine x_top (nI 2) (by rw [hk]) ?_
                  refine lv_iconst (v := (nI 4)) hx hb d_M_solve_185 (by decide) ?_
                  refine x_ne hx hb 2 4 rfl rfl (by decide) (by decide) (tgt := 204) d_M_solve_186 (by decide) (fun c114 => ?_) (fun c114 => ?_)
                  rotate_left
                  · exact False.elim (by omega)
                  refine lv_iinc (v := nI (v + 1)) (lv' := [(1, .int (nI (v + 1))), (2, .int (nI (vl (vAt V v).2.1 dv))), (0, .ref a.m)]) hx hb d_M_solve_204 hl (k := 1) rfl (n_inc _) (by decide) rfl (fun ls hl => ?_)
                  refine lv_goto (tgt := 35) hx hb d_M_solve_207 (by decide) ?_
                  exact ih (v + 1) (by omega) (by omega) (va_up bv v (inv97 (vl (vAt V v).2.1 dv))) (va_up dv v (inv97 (vl (vAt V v).2.1 dv))) w106 H locs ls E108 (fun j hj => by unfold va_up; split; exact inv97_lt _; exact hbv j hj) (fun j hj => by unfold va_up; by_cases q : j = v; rw [if_pos q, if_pos q]; rw [if_neg q, if_neg q]; exact hag j (by omega)) (hfl.trans (fil_some (by unfold num; rw [g1, hk]; show (if vl (vAt V v).2.1 dv = 0 then none else some (inv97 (vl (vAt V v).2.1 dv))) = _; rw [if_neg cnz]))) hP hD hS (lv_sub hl [0, 2] rfl)
                · refine lv_aload_n hx hb d_M_solve_86 rfl (lv_at hl 2 rfl) ?_
                  refine lv_iconst (v := (nI 1)) hx hb d_M_solve_87 (by decide) ?_
                  refine x_calli (va_runV (As := [.int (nI 1)]) (rest := []) ⟨hx, hb, hml, hown, ht⟩ (c_M_raise l G A w9 a (⟨0, st.ex, st.va, st.co, st.sv, st.kn, st.kc, st.S, st.Kd, st.In, st.Hw, st.Fr, st.Gn, st.R, st.L, st.T, st.O, bv, st.W⟩ : MS) hw9 1) (cwV 1 ht (TW_V k_ml_M_117 k_im_M_raise k_se_M_raise k_in_M k_code_M_raise) rfl rfl rfl hv_M_raise ⟨Nat.le_of_ble_eq_true rfl, Nat.le_of_ble_eq_true rfl⟩) ⟨x_blind, va_recv hK hP rfl h52, x_pre hE hA hS hP hD⟩ rfl rfl hl.1 rfl (lv_room (Nat.le_of_ble_eq_true rfl)) d_M_solve_88 ⟨Nat.le_of_ble_eq_true rfl, Nat.le_of_ble_eq_true rfl⟩) hS (fun r117 w116 H locs q115 hP hD hS => ?_)
                  obtain ⟨rfl, q115⟩ := q115
                  have E118 : w116 = mW G a (⟨1, st.ex, st.va, st.co, st.sv, st.kn, st.kc, st.S, st.Kd, st.In, st.Hw, st.Fr, st.Gn, st.R, st.L, st.T, st.O, bv, st.W⟩ : MS) := q115
                  have h119 : w116[0]? = some (a.m, .inr (5, [.int (nI 1), .ref a.aS, .ref a.aK, .ref a.aI, .int (nI st.ex), .ref a.aH, .ref a.aF, .ref a.aG, .int (nI st.va), .ref a.aR, .int (nI st.co), .ref a.aL, .ref a.aT, .ref a.aO, .ref a.aB, .ref a.aW, .int (nI st.sv), .int (nI st.kn), .int (nI st.kc)])) := by rw [E118]; rfl
                  exact x_iret hx hb hr hlocks hS hP hD (Nat.le_of_ble_eq_true rfl) (Nat.le_of_ble_eq_true rfl) d_M_solve_91 (⟨_, E118, Or.inr (⟨rfl, ⟨dv, hfl.trans (fil_none (by unfold num; rw [g1, hk]; show (if vl (vAt V v).2.1 dv = 0 then none else some (inv97 (vl (vAt V v).2.1 dv))) = _; rw [if_pos c99]))⟩, hM⟩)⟩)
              · refine lv_aload_n hx hb d_M_solve_43 rfl (lv_at hl 1 rfl) ?_
                refine va_get (D := xD G) (ci := 5) (C := R_M) (T := F_M) (N := 19) hx hb ht in_M hown hK hP 0 h52 rfl 5 (by decide) (ht _ k_fl_M_19) (fun _ h9 => h9) rfl d_M_solve_44 ?_
                refine lv_iload_n hx hb d_M_solve_47 rfl (lv_at hl 0 rfl) ?_
                refine x_iald hx hb hK hP h54 v rfl (by omega) (by omega) d_M_solve_48 ?_
                refine x_top (nI (st.Hw v)) (rfl) ?_
                refine x_top (nI 3) (by rw [hk]) ?_
                refine x_if_ne hx hb 3 rfl (by decide) (tgt := 56) d_M_solve_49 (by decide) (fun c120 => ?_) (fun c120 => ?_)
                rotate_left
                · exact False.elim (by omega)
                obtain ⟨f1, f2, f3, f4⟩ := g5 (by omega)
                refine lv_aload_n hx hb d_M_solve_56 rfl (lv_at hl 1 rfl) ?_
                refine lv_aload_n hx hb d_M_solve_57 rfl (lv_at hl 1 rfl) ?_
                refine va_get (D := xD G) (ci := 5) (C := R_M) (T := F_M) (N := 19) hx hb ht in_M hown hK hP 0 h52 rfl 6 (by decide) (ht _ k_fl_M_22) (fun _ h9 => h9) rfl d_M_solve_58 ?_
                refine lv_iload_n hx hb d_M_solve_61 rfl (lv_at hl 0 rfl) ?_
                refine x_iald hx hb hK hP h55 v rfl (by omega) (by omega) d_M_solve_62 ?_
                refine x_top (nI (st.Fr v)) (rfl) ?_
                refine lv_iconst (v := (nI 0)) hx hb d_M_solve_63 (by decide) ?_
                refine lv_aload_n hx hb d_M_solve_64 rfl (lv_at hl 1 rfl) ?_
                refine va_get (D := xD G) (ci := 5) (C := R_M) (T := F_M) (N := 19) hx hb ht in_M hown hK hP 0 h52 rfl 14 (by decide) (ht _ k_fl_M_44) (fun _ h9 => h9) rfl d_M_solve_65 ?_
                have bR0 : ∀ j, j < 60 → st.R (180 * st.Fr v + 60 * 0 + j) = (vAt V v).2.1 j := fun j hj => (hM.1.2 (st.Fr v) 0 j f1 (by decide) hj).1.trans (f2 j hj).symm
                have eA0 : vl (fun j => st.R (180 * st.Fr v + 60 * 0 + j)) bv = vl (vAt V v).2.1 dv := vl_c bR0 (fun j hj q => hag j (by by_cases q2 : j < v; exact q2; exact absurd (f3 j (by omega) hj) q))
                refine x_calli (va_runV (As := [.int (nI (st.Fr v)), .int (nI 0), .ref a.aB]) (rest := []) ⟨hx, hb, hml, hown, ht⟩ (c_M_valueOf l G A w9 a (⟨0, st.ex, st.va, st.co, st.sv, st.kn, st.kc, st.S, st.Kd, st.In, st.Hw, st.Fr, st.Gn, st.R, st.L, st.T, st.O, bv, st.W⟩ : MS) hw9 11 a.aB bv h53 (by decide) (st.Fr v) 0 (by omega) (by decide) hbv (fun j hj => by have := (hM.1.2 (st.Fr v) 0 j f1 (by decide) hj); show st.R _ < 97; rw [this.1]; exact this.2.1)) (cwV 3 ht (TW_V k_ml_M_128 k_im_M_valueOf k_se_M_valueOf k_in_M k_code_M_valueOf) rfl rfl rfl hv_M_valueOf ⟨Nat.le_of_ble_eq_true rfl, Nat.le_of_ble_eq_true rfl⟩) ⟨x_blind, va_recv hK hP rfl h52, x_pre hE hA hS hP hD⟩ rfl rfl hl.1 rfl (lv_room (Nat.le_of_ble_eq_true rfl)) d_M_solve_68 ⟨Nat.le_of_ble_eq_true rfl, Nat.le_of_ble_eq_true rfl⟩) hS (fun r123 w122 H locs q121 hP hD hS => ?_)
                obtain ⟨rfl, rfl⟩ := q121
                refine x_top (nI (vl (vAt V v).2.1 dv)) (congrArg nI eA0) ?_
                have vb0 := vl_lt (vAt V v).2.1 dv
                refine lv_istore_n (lv' := [(2, .int (nI (vl (vAt V v).2.1 dv))), (1, .int (nI v)), (0, .ref a.m)]) hx hb d_M_solve_71 rfl hl (by decide) rfl (fun ls hl => ?_)
                refine lv_aload_n hx hb d_M_solve_72 rfl (lv_at hl 2 rfl) ?_
                refine va_get (D := xD G) (ci := 5) (C := R_M) (T := F_M) (N := 19) hx hb ht in_M hown hK hP 0 h52 rfl 5 (by decide) (ht _ k_fl_M_19) (fun _ h9 => h9) rfl d_M_solve_73 ?_
                refine lv_iload_n hx hb d_M_solve_76 rfl (lv_at hl 1 rfl) ?_
                refine x_iald hx hb hK hP h54 v rfl (by omega) (by omega) d_M_solve_77 ?_
                refine x_top (nI (st.Hw v)) (rfl) ?_
                refine x_top (nI 3) (by rw [hk]) ?_
                refine lv_iconst (v := (nI 2)) hx hb d_M_solve_78 (by decide) ?_
                refine x_ne hx hb 3 2 rfl rfl (by decide) (by decide) (tgt := 92) d_M_solve_79 (by decide) (fun c124 => ?_) (fun c124 => ?_)
                rotate_left
                · exact False.elim (by omega)
                refine lv_aload_n hx hb d_M_solve_92 rfl (lv_at hl 2 rfl) ?_
                refine va_get (D := xD G) (ci := 5) (C := R_M) (T := F_M) (N := 19) hx hb ht in_M hown hK hP 0 h52 rfl 5 (by decide) (ht _ k_fl_M_19) (fun _ h9 => h9) rfl d_M_solve_93 ?_
                refine lv_iload_n hx hb d_M_solve_96 rfl (lv_at hl 1 rfl) ?_
                refine x_iald hx hb hK hP h54 v rfl (by omega) (by omega) d_M_solve_97 ?_
                refine x_top (nI (st.Hw v)) (rfl) ?_
                refine x_top (nI 3) (by rw [hk]) ?_
                refine x_if_ne hx hb 3 rfl (by decide) (tgt := 113) d_M_solve_98 (by decide) (fun c125 => ?_) (fun c125 => ?_)
                rotate_left
                · exact False.elim (by omega)
                refine lv_aload_n hx hb d_M_solve_113 rfl (lv_at hl 2 rfl) ?_
                refine va_get (D := xD G) (ci := 5) (C := R_M) (T := F_M) (N := 19) hx hb ht in_M hown hK hP 0 h52 rfl 5 (by decide) (ht _ k_fl_M_19) (fun _ h9 => h9) rfl d_M_solve_114 ?_
                refine lv_iload_n hx hb d_M_solve_117 rfl (lv_at hl 1 rfl) ?_
                refine x_iald hx hb hK hP h54 v rfl (by omega) (by omega) d_M_solve_118 ?_
                refine x_top (nI (st.Hw v)) (rfl) ?_
                refine x_top (nI 3) (by rw [hk]) ?_
                refine lv_iconst (v := (nI 1)) hx hb d_M_solve_119 (by decide) ?_
                refine x_ne hx hb 3 1 rfl rfl (by decide) (by decide) (tgt := 149) d_M_solve_120 (by decide) (fun c126 => ?_) (fun c126 => ?_)
                rotate_left
                · exact False.elim (by omega)
                refine lv_aload_n hx hb d_M_solve_149 rfl (lv_at hl 2 rfl) ?_
                refine va_get (D := xD G) (ci := 5) (C := R_M) (T := F_M) (N := 19) hx hb ht in_M hown hK hP 0 h52 rfl 5 (by decide) (ht _ k_fl_M_19) (fun _ h9 => h9) rfl d_M_solve_150 ?_
                refine lv_iload_n hx hb d_M_solve_153 rfl (lv_at hl 1 rfl) ?_
                refine x_iald hx hb hK hP h54 v rfl (by omega) (by omega) d_M_solve_154 ?_
                refine x_top (nI (st.Hw v)) (rfl) ?_
                refine x_top (nI 3) (by rw [hk]) ?_
                refine lv_iconst (v := (nI 2)) hx hb d_M_solve_155 (by decide) ?_
                refine x_eq hx hb 3 2 rfl rfl (by decide) (by decide) (tgt := 169) d_M_solve_156 (by decide) (fun c127 => ?_) (fun c127 => ?_)
                · exact False.elim (by omega)
                refine lv_aload_n hx hb d_M_solve_159 rfl (lv_at hl 2 rfl) ?_
                refine va_get (D := xD G) (ci := 5) (C := R_M) (T := F_M) (N := 19) hx hb ht in_M hown hK hP 0 h52 rfl 5 (by decide) (ht _ k_fl_M_19) (fun _ h9 => h9) rfl d_M_solve_160 ?_
                refine lv_iload_n hx hb d_M_solve_163 rfl (lv_at hl 1 rfl) ?_
                refine x_iald hx hb hK hP h54 v rfl (by omega) (by omega) d_M_solve_164 ?_
                refine x_top (nI (st.Hw v)) (rfl) ?_
                refine x_top (nI 3) (by rw [hk]) ?_
                refine lv_iconst (v := (nI 3)) hx hb d_M_solve_165 (by decide) ?_
                refine x_ne hx hb 3 3 rfl rfl (by decide) (by decide) (tgt := 179) d_M_solve_166 (by decide) (fun c128 => ?_) (fun c128 => ?_)
                · exact False.elim (by omega)
                refine lv_aload_n hx hb d_M_solve_169 rfl (lv_at hl 2 rfl) ?_
                refine va_get (D := xD G) (ci := 5) (C := R_M) (T := F_M) (N := 19) hx hb ht in_M hown hK hP 0 h52 rfl 14 (by decide) (ht _ k_fl_M_44) (fun _ h9 => h9) rfl d_M_solve_170 ?_
                refine lv_iload_n hx hb d_M_solve_173 rfl (lv_at hl 1 rfl) ?_
                refine lv_iload_n hx hb d_M_solve_174 rfl (lv_at hl 0 rfl) ?_
                refine x_calli (va_runS (As := [.int (nI (vl (vAt V v).2.1 dv))]) (rest := [.int (nI v), .ref a.aB]) ⟨hx, hb, hml, hown, ht⟩ (c_M_inverse l G A w9 (vl (vAt V v).2.1 dv) vb0) (va_cwS 1 ht (TW_S k_ml_M_132 k_st_M_inverse k_in_M k_code_M_inverse) rfl rfl rfl hv_M_inverse.2 ⟨Nat.le_of_ble_eq_true rfl, Nat.le_of_ble_eq_true rfl⟩) ⟨x_blind, x_pre hE hA hS hP hD⟩ rfl rfl hl.1 rfl (lv_room (Nat.le_of_ble_eq_true rfl)) d_M_solve_175 ⟨Nat.le_of_ble_eq_true rfl, Nat.le_of_ble_eq_true rfl⟩) hS (fun r131 w130 H locs q129 hP hD hS => ?_)
                obtain ⟨rfl, rfl⟩ := q129
                refine x_iast hx hb hK hP hD hS h53 v rfl (by omega) (by omega) d_M_solve_178 (fun H locs hP hD hS => ?_)
                have hP : va_P (xD G) CL (w9.set 11 (a.aB, aI G 60 (upd (rI bv) v (nI (inv97 (vl (vAt V v).2.1 dv)))))) H := hP
                have hD : va_D A (w9.set 11 (a.aB, aI G 60 (upd (rI bv) v (nI (inv97 (vl (vAt V v).2.1 dv)))))) := hD
                obtain ⟨w132, e_w132⟩ : ∃ zz : va_W, zz = w9.set 11 (a.aB, aI G 60 (upd (rI bv) v (nI (inv97 (vl (vAt V v).2.1 dv))))) := ⟨_, rfl⟩
                rw [← e_w132] at hP hD
                have h133 : w132[11]? = some (a.aB, aI G 60 (upd (rI bv) v (nI (inv97 (vl (vAt V v).2.1 dv))))) := by rw [e_w132]; exact w_eq h53
                have E134 : w132 = mW G a (⟨0, st.ex, st.va, st.co, st.sv, st.kn, st.kc, st.S, st.Kd, st.In, st.Hw, st.Fr, st.Gn, st.R, st.L, st.T, st.O, (va_up bv v (inv97 (vl (vAt V v).2.1 dv))), st.W⟩ : MS) := by rw [e_w132, hw9, up_rI]; exact mW_B
                have h135 : w132[0]? = some (a.m, .inr (5, [.int (nI 0), .ref a.aS, .ref a.aK, .ref a.aI, .int (nI st.ex), .ref a.aH, .ref a.aF, .ref a.aG, .int (nI st.va), .ref a.aR, .int (nI st.co), .ref a.aL, .ref a.aT, .ref a.aO, .ref a.aB, .ref a.aW, .int (nI st.sv), .int (nI st.kn), .int (nI st.kc)])) := by rw [E134]; rfl
                have h136 : w132[11]? = some (a.aB, aI G 60 (rI (va_up bv v (inv97 (vl (vAt V v).2.1 dv))))) := by rw [E134]; rfl
                have h137 : w132[4]? = some (a.aH, aI G 60 (rI st.Hw)) := by rw [E134]; rfl
                have h138 : w132[5]? = some (a.aF, aI G 60 (rI st.Fr)) := by rw [E134]; rfl
                have h139 : w132[6]? = some (a.aG, aI G 60 (rI st.Gn)) := by rw [E134]; rfl
                refine lv_aload_n hx hb d_M_solve_179 rfl (lv_at hl 2 rfl) ?_
                refine va_get (D := xD G) (ci := 5) (C := R_M) (T := F_M) (N := 19) hx hb ht in_M hown hK hP 0 h135 rfl 5 (by decide) (ht _ k_fl_M_19) (fun _ h9 => h9) rfl d_M_solve_180 ?_
                refine lv_iload_n hx hb d_M_solve_183 rfl (lv_at hl 1 rfl) ?_
                refine x_iald hx hb hK hP h137 v rfl (by omega) (by omega) d_M_solve_184 ?_
                refine x_top (nI (st.Hw v)) (rfl) ?_
                refine x_top (nI 3) (by rw [hk]) ?_
                refine lv_iconst (v := (nI 4)) hx hb d_M_solve_185 (by decide) ?_
                refine x_ne hx hb 3 4 rfl rfl (by decide) (by decide) (tgt := 204) d_M_solve_186 (by decide) (fun c140 => ?_) (fun c140 => ?_)
                rotate_left
                · exact False.elim (by omega)
                refine lv_iinc (v := nI (v + 1)) (lv' := [(1, .int (nI (v + 1))), (2, .int (nI (vl (vAt V v).2.1 dv))), (0, .ref a.m)]) hx hb d_M_solve_204 hl (k := 1) rfl (n_inc _) (by decide) rfl (fun ls hl => ?_)
                refine lv_goto (tgt := 35) hx hb d_M_solve_207 (by decide) ?_
                exact ih (v + 1) (by omega) (by omega) (va_up bv v (inv97 (vl (vAt V v).2.1 dv))) (va_up dv v (inv97 (vl (vAt V v).2.1 dv))) w132 H locs ls E134 (fun j hj => by unfold va_up; split; exact inv97_lt _; exact hbv j hj) (fun j hj => by unfold va_up; by_cases q : j = v; rw [if_pos q, if_pos q]; rw [if_neg q, if_neg q]; exact hag j (by omega)) (hfl.trans (fil_some (by unfold num; rw [g1, hk]; rfl))) hP hD hS (lv_sub hl [0, 2] rfl)
              · refine lv_aload_n hx hb d_M_solve_43 rfl (lv_at hl 1 rfl) ?_
                refine va_get (D := xD G) (ci := 5) (C := R_M) (T := F_M) (N := 19) hx hb ht in_M hown hK hP 0 h52 rfl 5 (by decide) (ht _ k_fl_M_19) (fun _ h9 => h9) rfl d_M_solve_44 ?_
                refine lv_iload_n hx hb d_M_solve_47 rfl (lv_at hl 0 rfl) ?_
                refine x_iald hx hb hK hP h54 v rfl (by omega) (by omega) d_M_solve_48 ?_
                refine x_top (nI (st.Hw v)) (rfl) ?_
                refine x_top (nI 4) (by rw [hk]) ?_
                refine x_if_ne hx hb 4 rfl (by decide) (tgt := 56) d_M_solve_49 (by decide) (fun c141 => ?_) (fun c141 => ?_)
                rotate_left
                · exact False.elim (by omega)
                obtain ⟨f1, f2, f3, f4⟩ := g5 (by omega)
                refine lv_aload_n hx hb d_M_solve_56 rfl (lv_at hl 1 rfl) ?_
                refine lv_aload_n hx hb d_M_solve_57 rfl (lv_at hl 1 rfl) ?_
                refine va_get (D := xD G) (ci := 5) (C := R_M) (T := F_M) (N := 19) hx hb ht in_M hown hK hP 0 h52 rfl 6 (by decide) (ht _ k_fl_M_22) (fun _ h9 => h9) rfl d_M_solve_58 ?_
                refine lv_iload_n hx hb d_M_solve_61 rfl (lv_at hl 0 rfl) ?_
                refine x_iald hx hb hK hP h55 v rfl (by omega) (by omega) d_M_solve_62 ?_
                refine x_top (nI (st.Fr v)) (rfl) ?_
                refine lv_iconst (v := (nI 0)) hx hb d_M_solve_63 (by decide) ?_
                refine lv_aload_n hx hb d_M_solve_64 rfl (lv_at hl 1 rfl) ?_
                refine va_get (D := xD G) (ci := 5) (C := R_M) (T := F_M) (N := 19) hx hb ht in_M hown hK hP 0 h52 rfl 14 (by decide) (ht _ k_fl_M_44) (fun _ h9 => h9) rfl d_M_solve_65 ?_
                have bR0 : ∀ j, j < 60 → st.R (180 * st.Fr v + 60 * 0 + j) = (vAt V v).2.1 j := fun j hj => (hM.1.2 (st.Fr v) 0 j f1 (by decide) hj).1.trans (f2 j hj).symm
                have eA0 : vl (fun j => st.R (180 * st.Fr v + 60 * 0 + j)) bv = vl (vAt V v).2.1 dv := vl_c bR0 (fun j hj q => hag j (by by_cases q2 : j < v; exact q2; exact absurd (f3 j (by omega) hj) q))
                refine x_calli (va_runV (As := [.int (nI (st.Fr v)), .int (nI 0), .ref a.aB]) (rest := []) ⟨hx, hb, hml, hown, ht⟩ (c_M_valueOf l G A w9 a (⟨0, st.ex, st.va, st.co, st.sv, st.kn, st.kc, st.S, st.Kd, st.In, st.Hw, st.Fr, st.Gn, st.R, st.L, st.T, st.O, bv, st.W⟩ : MS) hw9 11 a.aB bv h53 (by decide) (st.Fr v) 0 (by omega) (by decide) hbv (fun j hj => by have := (hM.1.2 (st.Fr v) 0 j f1 (by decide) hj); show st.R _ < 97; rw [this.1]; exact this.2.1)) (cwV 3 ht (TW_V k_ml_M_128 k_im_M_valueOf k_se_M_valueOf k_in_M k_code_M_valueOf) rfl rfl rfl hv_M_valueOf ⟨Nat.le_of_ble_eq_true rfl, Nat.le_of_ble_eq_true rfl⟩) ⟨x_blind, va_recv hK hP rfl h52, x_pre hE hA hS hP hD⟩ rfl rfl hl.1 rfl (lv_room (Nat.le_of_ble_eq_true rfl)) d_M_solve_68 ⟨Nat.le_of_ble_eq_true rfl, Nat.le_of_ble_eq_true rfl⟩) hS (fun r144 w143 H locs q142 hP hD hS => ?_)
                obtain ⟨rfl, rfl⟩ := q142
                refine x_top (nI (vl (vAt V v).2.1 dv)) (congrArg nI eA0) ?_
                have vb0 := vl_lt (vAt V v).2.1 dv
                refine lv_istore_n (lv' := [(2, .int (nI (vl (vAt V v).2.1 dv))), (1, .int (nI v)), (0, .ref a.m)]) hx hb d_M_solve_71 rfl hl (by decide) rfl (fun ls hl => ?_)
                refine lv_aload_n hx hb d_M_solve_72 rfl (lv_at hl 2 rfl) ?_
                refine va_get (D := xD G) (ci := 5) (C := R_M) (T := F_M) (N := 19) hx hb ht in_M hown hK hP 0 h52 rfl 5 (by decide) (ht _ k_fl_M_19) (fun _ h9 => h9) rfl d_M_solve_73 ?_
                refine lv_iload_n hx hb d_M_solve_76 rfl (lv_at hl 1 rfl) ?_
                refine x_iald hx hb hK hP h54 v rfl (by omega) (by omega) d_M_solve_77 ?_
                refine x_top (nI (st.Hw v)) (rfl) ?_
                refine x_top (nI 4) (by rw [hk]) ?_
                refine lv_iconst (v := (nI 2)) hx hb d_M_solve_78 (by decide) ?_
                refine x_ne hx hb 4 2 rfl rfl (by decide) (by decide) (tgt := 92) d_M_solve_79 (by decide) (fun c145 => ?_) (fun c145 => ?_)
                rotate_left
                · exact False.elim (by omega)
                refine lv_aload_n hx hb d_M_solve_92 rfl (lv_at hl 2 rfl) ?_
                refine va_get (D := xD G) (ci := 5) (C := R_M) (T := F_M) (N := 19) hx hb ht in_M hown hK hP 0 h52 rfl 5 (by decide) (ht _ k_fl_M_19) (fun _ h9 => h9) rfl d_M_solve_93 ?_
                refine lv_iload_n hx hb d_M_solve_96 rfl (lv_at hl 1 rfl) ?_
                refine x_iald hx hb hK hP h54 v rfl (by omega) (by omega) d_M_solve_97 ?_
                refine x_top (nI (st.Hw v)) (rfl) ?_
                refine x_top (nI 4) (by rw [hk]) ?_
                refine x_if_ne hx hb 4 rfl (by decide) (tgt := 113) d_M_solve_98 (by decide) (fun c146 => ?_) (fun c146 => ?_)
                rotate_left
                · exact False.elim (by omega)
                refine lv_aload_n hx hb d_M_solve_113 rfl (lv_at hl 2 rfl) ?_
                refine va_get (D := xD G) (ci := 5) (C := R_M) (T := F_M) (N := 19) hx hb ht in_M hown hK hP 0 h52 rfl 5 (by decide) (ht _ k_fl_M_19) (fun _ h9 => h9) rfl d_M_solve_114 ?_
                refine lv_iload_n hx hb d_M_solve_117 rfl (lv_at hl 1 rfl) ?_
                refine x_iald hx hb hK hP h54 v rfl (by omega) (by omega) d_M_solve_118 ?_
                refine x_top (nI (st.Hw v)) (rfl) ?_
                refine x_top (nI 4) (by rw [hk]) ?_
                refine lv_iconst (v := (nI 1)) hx hb d_M_solve_119 (by decide) ?_
                refine x_ne hx hb 4 1 rfl rfl (by decide) (by decide) (tgt := 149) d_M_solve_120 (by decide) (fun c147 => ?_) (fun c147 => ?_)
                rotate_left
                · exact False.elim (by omega)
                refine lv_aload_n hx hb d_M_solve_149 rfl (lv_at hl 2 rfl) ?_
                refine va_get (D := xD G) (ci := 5) (C := R_M) (T := F_M) (N := 19) hx hb ht in_M hown hK hP 0 h52 rfl 5 (by decide) (ht _ k_fl_M_19) (fun _ h9 => h9) rfl d_M_solve_150 ?_
                refine lv_iload_n hx hb d_M_solve_153 rfl (lv_at hl 1 rfl) ?_
                refine x_iald hx hb hK hP h54 v rfl (by omega) (by omega) d_M_solve_154 ?_
                refine x_top (nI (st.Hw v)) (rfl) ?_
                refine x_top (nI 4) (by rw [hk]) ?_
                refine lv_iconst (v := (nI 2)) hx hb d_M_solve_155 (by decide) ?_
                refine x_eq hx hb 4 2 rfl rfl (by decide) (by decide) (tgt := 169) d_M_solve_156 (by decide) (fun c148 => ?_) (fun c148 => ?_)
                · exact False.elim (by omega)
                refine lv_aload_n hx hb d_M_solve_159 rfl (lv_at hl 2 rfl) ?_
                refine va_get (D := xD G) (ci := 5) (C := R_M) (T := F_M) (N := 19) hx hb ht in_M hown hK hP 0 h52 rfl 5 (by decide) (ht _ k_fl_M_19) (fun _ h9 => h9) rfl d_M_solve_160 ?_
                refine lv_iload_n hx hb d_M_solve_163 rfl (lv_at hl 1 rfl) ?_
                refine x_iald hx hb hK hP h54 v rfl (by omega) (by omega) d_M_solve_164 ?_
                refine x_top (nI (st.Hw v)) (rfl) ?_
                refine x_top (nI 4) (by rw [hk]) ?_
                refine lv_iconst (v := (nI 3)) hx hb d_M_solve_165 (by decide) ?_
                refine x_ne hx hb 4 3 rfl rfl (by decide) (by decide) (tgt := 179) d_M_solve_166 (by decide) (fun c149 => ?_) (fun c149 => ?_)
                rotate_left
                · exact False.elim (by omega)
                refine lv_aload_n hx hb d_M_solve_179 rfl (lv_at hl 2 rfl) ?_
                refine va_get (D := xD G) (ci := 5) (C := R_M) (T := F_M) (N := 19) hx hb ht in_M hown hK hP 0 h52 rfl 5 (by decide) (ht _ k_fl_M_19) (fun _ h9 => h9) rfl d_M_solve_180 ?_
                refine lv_iload_n hx hb d_M_solve_183 rfl (lv_at hl 1 rfl) ?_
                refine x_iald hx hb hK hP h54 v rfl (by omega) (by omega) d_M_solve_184 ?_
                refine x_top (nI (st.Hw v)) (rfl) ?_
                refine x_top (nI 4) (by rw [hk]) ?_
                refine lv_iconst (v := (nI 4)) hx hb d_M_solve_185 (by decide) ?_
                refine x_ne hx hb 4 4 rfl rfl (by decide) (by decide) (tgt := 204) d_M_solve_186 (by decide) (fun c150 => ?_) (fun c150 => ?_)
                · exact False.elim (by omega)
                refine lv_aload_n hx hb d_M_solve_189 rfl (lv_at hl 2 rfl) ?_
                refine va_get (D := xD G) (ci := 5) (C := R_M) (T := F_M) (N := 19) hx hb ht in_M hown hK hP 0 h52 rfl 14 (by decide) (ht _ k_fl_M_44) (fun _ h9 => h9) rfl d_M_solve_190 ?_
                refine lv_iload_n hx hb d_M_solve_193 rfl (lv_at hl 1 rfl) ?_
                refine lv_iload_n hx hb d_M_solve_194 rfl (lv_at hl 0 rfl) ?_
                refine x_if_ne hx hb (vl (vAt V v).2.1 dv) rfl (by omega) (tgt := 202) d_M_solve_195 (by decide) (fun c151 => ?_) (fun c151 => ?_)
                · refine lv_iconst (v := (nI 0)) hx hb d_M_solve_202 (by decide) ?_
                  refine x_iast hx hb hK hP hD hS h53 v rfl (by omega) (by omega) d_M_solve_203 (fun H locs hP hD hS => ?_)
                  have hP : va_P (xD G) CL (w9.set 11 (a.aB, aI G 60 (upd (rI bv) v (nI 0)))) H := hP
                  have hD : va_D A (w9.set 11 (a.aB, aI G 60 (upd (rI bv) v (nI 0)))) := hD
                  obtain ⟨w152, e_w152⟩ : ∃ zz : va_W, zz = w9.set 11 (a.aB, aI G 60 (upd (rI bv) v (nI 0))) := ⟨_, rfl⟩
                  rw [← e_w152] at hP hD
                  have h153 : w152[11]? = some (a.aB, aI G 60 (upd (rI bv) v (nI 0))) := by rw [e_w152]; exact w_eq h53
                  have E154 : w152 = mW G a (⟨0, st.ex, st.va, st.co, st.sv, st.kn, st.kc, st.S, st.Kd, st.In, st.Hw, st.Fr, st.Gn, st.R, st.L, st.T, st.O, (va_up bv v 0), st.W⟩ : MS) := by rw [e_w152, hw9, up_rI]; exact mW_B
                  have h155 : w152[0]? = some (a.m, .inr (5, [.int (nI 0), .ref a.aS, .ref a.aK, .ref a.aI, .int (nI st.ex), .ref a.aH, .ref a.aF, .ref a.aG, .int (nI st.va), .ref a.aR, .int (nI st.co), .ref a.aL, .ref a.aT, .ref a.aO, .ref a.aB, .ref a.aW, .int (nI st.sv), .int (nI st.kn), .int (nI st.kc)])) := by rw [E154]; rfl
                  have h156 : w152[11]? = some (a.aB, aI G 60 (rI (va_up bv v 0))) := by rw [E154]; rfl
                  have h157 : w152[4]? = some (a.aH, aI G 60 (rI st.Hw)) := by rw [E154]; rfl
                  have h158 : w152[5]? = some (a.aF, aI G 60 (rI st.Fr)) := by rw [E154]; rfl
                  have h159 : w152[6]? = some (a.aG, aI G 60 (rI st.Gn)) := by rw [E154]; rfl
                  refine lv_iinc (v := nI (v + 1)) (lv' := [(1, .int (nI (v + 1))), (2, .int (nI (vl (vAt V v).2.1 dv))), (0, .ref a.m)]) hx hb d_M_solve_204 hl (k := 1) rfl (n_inc _) (by decide) rfl (fun ls hl => ?_)
                  refine lv_goto (tgt := 35) hx hb d_M_solve_207 (by decide) ?_
                  exact ih (v + 1) (by omega) (by omega) (va_up bv v (0)) (va_up dv v (0)) w152 H locs ls E154 (fun j hj => by unfold va_up; split; exact (by decide); exact hbv j hj) (fun j hj => by unfold va_up; by_cases q : j = v; rw [if_pos q, if_pos q]; rw [if_neg q, if_neg q]; exact hag j (by omega)) (hfl.trans (fil_some (by unfold num; rw [g1, hk]; show some (if vl (vAt V v).2.1 dv = 0 then 1 else 0) = _; rw [if_neg c151]))) hP hD hS (lv_sub hl [0, 2] rfl)
                · refine lv_iconst (v := (nI 1)) hx hb d_M_solve_198 (by decide) ?_
                  refine lv_goto (tgt := 203) hx hb d_M_solve_199 (by decide) ?_
                  refine x_iast hx hb hK hP hD hS h53 v rfl (by omega) (by omega) d_M_solve_203 (fun H locs hP hD hS => ?_)
                  have hP : va_P (xD G) CL (w9.set 11 (a.aB, aI G 60 (upd (rI bv) v (nI 1)))) H := hP
                  have hD : va_D A (w9.set 11 (a.aB, aI G 60 (upd (rI bv) v (nI 1)))) := hD
                  obtain ⟨w160, e_w160⟩ : ∃ zz : va_W, zz = w9.set 11 (a.aB, aI G 60 (upd (rI bv) v (nI 1))) := ⟨_, rfl⟩
                  rw [← e_w160] at hP hD
                  have h161 : w160[11]? = some (a.aB, aI G 60 (upd (rI bv) v (nI 1))) := by rw [e_w160]; exact w_eq h53
                  have E162 : w160 = mW G a (⟨0, st.ex, st.va, st.co, st.sv, st.kn, st.kc, st.S, st.Kd, st.In, st.Hw, st.Fr, st.Gn, st.R, st.L, st.T, st.O, (va_up bv v 1), st.W⟩ : MS) := by rw [e_w160, hw9, up_rI]; exact mW_B
                  have h163 : w160[0]? = some (a.m, .inr (5, [.int (nI 0), .ref a.aS, .ref a.aK, .ref a.aI, .int (nI st.ex), .ref a.aH, .ref a.aF, .ref a.aG, .int (nI st.va), .ref a.aR, .int (nI st.co), .ref a.aL, .ref a.aT, .ref a.aO, .ref a.aB, .ref a.aW, .int (nI st.sv), .int (nI st.kn), .int (nI st.kc)])) := by rw [E162]; rfl
                  have h164 : w160[11]? = some (a.aB, aI G 60 (rI (va_up bv v 1))) := by rw [E162]; rfl
                  have h165 : w160[4]? = some (a.aH, aI G 60 (rI st.Hw)) := by rw [E162]; rfl
                  have h166 : w160[5]? = some (a.aF, aI G 60 (rI st.Fr)) := by rw [E162]; rfl
                  have h167 : w160[6]? = some (a.aG, aI G 60 (rI st.Gn)) := by rw [E162]; rfl
                  refine lv_iinc (v := nI (v + 1)) (lv' := [(1, .int (nI (v + 1))), (2, .int (nI (vl (vAt V v).2.1 dv))), (0, .ref a.m)]) hx hb d_M_solve_204 hl (k := 1) rfl (n_inc _) (by decide) rfl (fun ls hl => ?_)
                  refine lv_goto (tgt := 35) hx hb d_M_solve_207 (by decide) ?_
                  exact ih (v + 1) (by omega) (by omega) (va_up bv v (1)) (va_up dv v (1)) w160 H locs ls E162 (fun j hj => by unfold va_up; split; exact (by decide); exact hbv j hj) (fun j hj => by unfold va_up; by_cases q : j = v; rw [if_pos q, if_pos q]; rw [if_neg q, if_neg q]; exact hag j (by omega)) (hfl.trans (fil_some (by unfold num; rw [g1, hk]; show some (if vl (vAt V v).2.1 dv = 0 then 1 else 0) = _; rw [if_pos c151]))) hP hD hS (lv_sub hl [0, 2] rfl)
        exact main (V.length - 1) 1 (by omega) (by decide) b0 (va_up d 0 1) w14 H locs ls E16 hb0 (fun j hj => by rw [show j = 0 by omega, hb1]; exact up_at.symm) e0 hP hD hS (lv_sub hl [0, 1] rfl)
      · exact False.elim (by omega)
    | succ n ih =>
      intro i hi H locs ls hP hD hS hl
      refine lv_iload_n hx hb d_M_solve_7 rfl (lv_at hl 0 rfl) ?_
      refine lv_bipush (v := (nI 60)) hx hb d_M_solve_8 (by decide) ?_
      refine x_ge hx hb i 60 rfl rfl (by omega) (by omega) (tgt := 26) d_M_solve_10 (by decide) (fun c168 => ?_) (fun c168 => ?_)
      · exact False.elim (by omega)
      · obtain ⟨w169, e_w169⟩ : ∃ zz : va_W, zz = (w2.set 11 (a.aB, aI G 60 (rI (ovb i 0 st.B zr)))) := ⟨_, rfl⟩
        rw [← e_w169] at hP hD
        have h170 : w169[0]? = some (a.m, .inr (5, [.int (nI 0), .ref a.aS, .ref a.aK, .ref a.aI, .int (nI st.ex), .ref a.aH, .ref a.aF, .ref a.aG, .int (nI st.va), .ref a.aR, .int (nI st.co), .ref a.aL, .ref a.aT, .ref a.aO, .ref a.aB, .ref a.aW, .int (nI st.sv), .int (nI st.kn), .int (nI st.kc)])) := by rw [e_w169]; exact w_ne (by decide) h5
        have h171 : w169[11]? = some (a.aB, aI G 60 (rI (ovb i 0 st.B zr))) := by rw [e_w169]; exact w_eq h6
        refine lv_aload_n hx hb d_M_solve_13 rfl (lv_at hl 1 rfl) ?_
        refine va_get (D := xD G) (ci := 5) (C := R_M) (T := F_M) (N := 19) hx hb ht in_M hown hK hP 0 h170 rfl 14 (by decide) (ht _ k_fl_M_44) (fun _ h9 => h9) rfl d_M_solve_14 ?_
        refine lv_iload_n hx hb d_M_solve_17 rfl (lv_at hl 0 rfl) ?_
        refine lv_iconst (v := (nI 0)) hx hb d_M_solve_18 (by decide) ?_
        refine x_iast hx hb hK hP hD hS h171 i rfl (by omega) (by omega) d_M_solve_19 (fun H locs hP hD hS => ?_)
        have hP : va_P (xD G) CL (w169.set 11 (a.aB, aI G 60 (upd (rI (ovb i 0 st.B zr)) i (nI 0)))) H := hP
        have hD : va_D A (w169.set 11 (a.aB, aI G 60 (upd (rI (ovb i 0 st.B zr)) i (nI 0)))) := hD
        obtain ⟨w172, e_w172⟩ : ∃ zz : va_W, zz = w169.set 11 (a.aB, aI G 60 (upd (rI (ovb i 0 st.B zr)) i (nI 0))) := ⟨_, rfl⟩
        rw [← e_w172] at hP hD
        have h173 : w172[11]? = some (a.aB, aI G 60 (upd (rI (ovb i 0 st.B zr)) i (nI 0))) := by rw [e_w172]; exact w_eq h171
        have eN9 : w172 = (w2.set 11 (a.aB, aI G 60 (rI (ovb (i + 1) 0 st.B zr)))) := by rw [e_w172, e_w169, List.set_set, up_rI]; exact congrArg (fun q9 => w2.set 11 (a.aB, aI G 60 (rI q9))) ovb_s0
        refine lv_iinc (v := nI (i + 1)) (lv' := [(1, .int (nI (i + 1))), (0, .ref a.m)]) hx hb d_M_solve_20 hl (k := 0) rfl (n_inc _) (by decide) rfl (fun ls hl => ?_)
        refine lv_goto (tgt := 7) hx hb d_M_solve_23 (by decide) ?_
        exact ih (i + 1) (by omega) H locs ls (by rw [← eN9]; exact hP) (by rw [← eN9]; exact hD) hS (lv_sub hl [0, 1] rfl)
  exact loop 60 0 (by omega) H locs ls hP hD hS (lv_sub hl [0, 1] rfl)

theorem MRel.ini : MRel (⟨0, 0, 1, 0, 0, 0, 0, zr, zr, zr, zr, zr, zr, zr, zr, zr, zr, zr, zr⟩ : MS) [(0, zr, zr, 0)] [] [] 0 zr 0 0 := by
  refine ⟨⟨rfl, fun c t j hc => absurd hc (Nat.not_lt_zero _)⟩, ⟨rfl, Nat.le_refl _, rfl, fun v h1 h2 => absurd h2 (by have : ([((0 : Nat), zr, zr, (0 : Nat))] : List VV).length = 1 := rfl; omega)⟩, ⟨rfl, fun c t hc => absurd hc (Nat.not_lt_zero _), fun c hc => absurd hc (Nat.not_lt_zero _), rfl⟩, rfl, rfl, rfl, fun j hj => absurd hj (Nat.not_lt_zero _), fun j hj => (by decide : 0 < 97), Nat.le_refl _, by decide, fun c t j hc => absurd hc (Nat.not_lt_zero _)⟩

set_option maxHeartbeats 4000000 in
set_option maxRecDepth 100000 in
theorem c_M_init (l : Launch) (G : xG) (A : Nat → Prop) (ws : va_W) (m9 : Nat) (hw : ws = [(m9, .inr (5, [.int 0, .null, .null, .null, .int 0, .null, .null, .null, .int 0, .null, .int 0, .null, .null, .null, .null, .null, .int 0, .int 0, .int 0]))]) : Met l y_M_init (cw_M_init :: TW) { frames := 2, cells := 12, slots := 18660, locals := 52 } (va_Pc [.ref m9] (x_P G A ws)) (qV G A (fun w9 => ∃ a : MA, a.m = m9 ∧ w9 = mW G a (⟨0, 0, 1, 0, 0, 0, 0, zr, zr, zr, zr, zr, zr, zr, zr, zr, zr, zr, zr⟩ : MS))) 12 18660 A := by
  refine Met.ofW (cc := b_M_init) (maxL := 1) (ret := none) (by decide) rfl ?_
  intro p e s m args below meth c s₁ B hml hv
  obtain ⟨rfl, hE, hA, hP, hD⟩ := hv
  have hx := B.exec
  have hb := B.bytes
  have hr := B.returns
  have ht : ∀ w ∈ TW, w.before _ s = true := fun w h => atoms_spec (ws := cw_M_init :: TW) B.pre w (List.mem_cons_of_mem _ h)
  have hown : s.vm.findClass R_M = some m.cls := findClass_of_methodNamed B.named
  have hlocks := B.notSynchronized
  have hin : meth.name = "<init>" := (name_of_methodNamed B.named B.method).1
  have hK := hE.1
  have hS : va_S A s.heap s.heap [] := va_S.rf
  have hl := lv_entry ([.ref m9]) (n := 1) (Nat.le_of_ble_eq_true rfl)
  rw [lg_entry_eq]
  generalize (lg_sl ([.ref m9]) ++ List.replicate (1 - (lg_sl ([.ref m9])).length) Slot.unset).toArray = ls at hl ⊢
  have hl : lv_has ls 1 [(0, .ref m9)] := hl
  have E_ws : ws = [(m9, .inr (5, [.int 0, .null, .null, .null, .int 0, .null, .null, .null, .int 0, .null, .int 0, .null, .null, .null, .null, .null, .int 0, .int 0, .int 0]))] := hw
  have h1 : ws[0]? = some (m9, .inr (5, [.int 0, .null, .null, .null, .int 0, .null, .null, .null, .int 0, .null, .int 0, .null, .null, .null, .null, .null, .int 0, .int 0, .int 0])) := by rw [E_ws]; rfl
  refine lv_aload_n hx hb d_M_init_0 rfl (lv_at hl 0 rfl) ?_
  refine W.objInit hx hb hown (ht _ k_ml_M_1) (ht _ k_im_OJ_init) (ht _ k_code_OJ_init) rfl (by rw [hml]; exact hl.1) rfl d_M_init_1 (Nat.le_of_ble_eq_true rfl) (Nat.le_of_ble_eq_true rfl) ?_
  refine W.eq (g2 := F0 m 4 ls []) rfl ?_
  refine lv_aload_n hx hb d_M_init_4 rfl (lv_at hl 0 rfl) ?_
  refine lv_sipush (v := (nI 3600)) hx hb d_M_init_5 (by decide) ?_
  refine x_newa hx hb (ht _ k_ac_int) hK hP hD hS hA 3600 rfl (by decide) (Nat.le_of_ble_eq_true rfl) (Nat.le_of_ble_eq_true rfl) d_M_init_8 (fun aS H hP hD hS => ?_)
  refine W.widen (k := 1) (n := 3600) (Nat.le_of_ble_eq_true rfl) (Nat.le_of_ble_eq_true rfl) ?_
  have hP : va_P (xD G) CL (ws ++ [(aS, aI G 3600 (fun _ => 0))]) H := hP
  have hD : va_D A (ws ++ [(aS, aI G 3600 (fun _ => 0))]) := hD
  obtain ⟨w2, e_w2⟩ : ∃ zz : va_W, zz = ws ++ [(aS, aI G 3600 (fun _ => 0))] := ⟨_, rfl⟩
  rw [← e_w2] at hP hD
  have h3 : w2[ws.length]? = some (aS, aI G 3600 (fun _ => 0)) := by rw [e_w2]; exact w_new0
  have E_w2 : w2 = [(m9, .inr (5, [.int 0, .null, .null, .null, .int 0, .null, .null, .null, .int 0, .null, .int 0, .null, .null, .null, .null, .null, .int 0, .int 0, .int 0])), (aS, aI G 3600 (fun _ => 0))] := by rw [e_w2, E_ws]; rfl
  have h4 : w2[0]? = some (m9, .inr (5, [.int 0, .null, .null, .null, .int 0, .null, .null, .null, .int 0, .null, .int 0, .null, .null, .null, .null, .null, .int 0, .int 0, .int 0])) := by rw [E_w2]; rfl
  refine va_putF (D := xD G) (ci := 5) (v := .ref aS) (ty := .array .int) (C := R_M) (T := F_M) (N := 19) hx hb ht in_M ft_M fo_M nm_M hown hK hP hD hS 0 h4 rfl 1 (by decide) (ht _ k_fl_M_7) (fun _ h9 => h9) rfl hin rfl (by decide +kernel) rfl rfl (Nat.le_of_ble_eq_true rfl) d_M_init_10 (fun H locs hP hD hS => ?_)
  have hP : va_P (xD G) CL (w2.set 0 (m9, .inr (5, [.int 0, .ref aS, .null, .null, .int 0, .null, .null, .null, .int 0, .null, .int 0, .null, .null, .null, .null, .null, .int 0, .int 0, .int 0]))) H := hP
  have hD : va_D A (w2.set 0 (m9, .inr (5, [.int 0, .ref aS, .null, .null, .int 0, .null, .null, .null, .int 0, .null, .int 0, .null, .null, .null, .null, .null, .int 0, .int 0, .int 0]))) := hD
  obtain ⟨w5, e_w5⟩ : ∃ zz : va_W, zz = w2.set 0 (m9, .inr (5, [.int 0, .ref aS, .null, .null, .int 0, .null, .null, .null, .int 0, .null, .int 0, .null, .null, .null, .null, .null, .int 0, .int 0, .int 0])) := ⟨_, rfl⟩
  rw [← e_w5] at hP hD
  have h6 : w5[0]? = some (m9, .inr (5, [.int 0, .ref aS, .null, .null, .int 0, .null, .null, .null, .int 0, .null, .int 0, .null, .null, .null, .null, .null, .int 0, .int 0, .int 0])) := by rw [e_w5]; exact w_eq h4
  have E_w5 : w5 = [(m9, .inr (5, [.int 0, .ref aS, .null, .null, .int 0, .null, .null, .null, .int 0, .null, .int 0, .null, .null, .null, .null, .null, .int 0, .int 0, .int 0])), (aS, aI G 3600 (fun _ => 0))] := by rw [e_w5, E_w2]; rfl
  have h7 : w5[0]? = some (m9, .inr (5, [.int 0, .ref aS, .null, .null, .int 0, .null, .null, .null, .int 0, .null, .int 0, .null, .null, .null, .null, .null, .int 0, .int 0, .int 0])) := by rw [E_w5]; rfl
  refine lv_aload_n hx hb d_M_init_13 rfl (lv_at hl 0 rfl) ?_
  refine lv_bipush (v := (nI 60)) hx hb d_M_init_14 (by decide) ?_
  refine x_newa hx hb (ht _ k_ac_int) hK hP hD hS hA 60 rfl (by decide) (Nat.le_of_ble_eq_true rfl) (Nat.le_of_ble_eq_true rfl) d_M_init_16 (fun aK H hP hD hS => ?_)
  refine W.widen (k := 2) (n := 3660) (Nat.le_of_ble_eq_true rfl) (Nat.le_of_ble_eq_true rfl) ?_
  have hP : va_P (xD G) CL (w5 ++ [(aK, aI G 60 (fun _ => 0))]) H := hP
  have hD : va_D A (w5 ++ [(aK, aI G 60 (fun _ => 0))]) := hD
  obtain ⟨w8, e_w8⟩ : ∃ zz : va_W, zz = w5 ++ [(aK, aI G 60 (fun _ => 0))] := ⟨_, rfl⟩
  rw [← e_w8] at hP hD
  have h9 : w8[w5.length]? = some (aK, aI G 60 (fun _ => 0)) := by rw [e_w8]; exact w_new0
  have E_w8 : w8 = [(m9, .inr (5, [.int 0, .ref aS, .null, .null, .int 0, .null, .null, .null, .int 0, .null, .int 0, .null, .null, .null, .null, .null, .int 0, .int 0, .int 0])), (aS, aI G 3600 (fun _ => 0)), (aK, aI G 60 (fun _ => 0))] := by rw [e_w8, E_w5]; rfl
  have h10 : w8[0]? = some (m9, .inr (5, [.int 0, .ref aS, .null, .null, .int 0, .null, .null, .null, .int 0, .null, .int 0, .null, .null, .null, .null, .null, .int 0, .int 0, .int 0])) := by rw [E_w8]; rfl
  refine va_putF (D := xD G) (ci := 5) (v := .ref aK) (ty := .array .int) (C := R_M) (T := F_M) (N := 19) hx hb ht in_M ft_M fo_M nm_M hown hK hP hD hS 0 h10 rfl 2 (by decide) (ht _ k_fl_M_13) (fun _ h9 => h9) rfl hin rfl (by decide +kernel) rfl rfl (Nat.le_of_ble_eq_true rfl) d_M_init_18 (fun H locs hP hD hS => ?_)
  have hP : va_P (xD G) CL (w8.set 0 (m9, .inr (5, [.int 0, .ref aS, .ref aK, .null, .int 0, .null, .null, .null, .int 0, .null, .int 0, .null, .null, .null, .null, .null, .int 0, .int 0, .int 0]))) H := hP
  have hD : va_D A (w8.set 0 (m9, .inr (5, [.int 0, .ref aS, .ref aK, .null, .int 0, .null, .null, .null, .int 0, .null, .int 0, .null, .null, .null, .null, .null, .int 0, .int 0, .int 0]))) := hD
  obtain ⟨w11, e_w11⟩ : ∃ zz : va_W, zz = w8.set 0 (m9, .inr (5, [.int 0, .ref aS, .ref aK, .null, .int 0, .null, .null, .null, .int 0, .null, .int 0, .null, .null, .null, .null, .null, .int 0, .int 0, .int 0])) := ⟨_, rfl⟩
  rw [← e_w11] at hP hD
  have h12 : w11[0]? = some (m9, .inr (5, [.int 0, .ref aS, .ref aK, .null, .int 0, .null, .null, .null, .int 0, .null, .int 0, .null, .null, .null, .null, .null, .int 0, .int 0, .int 0])) := by rw [e_w11]; exact w_eq h10
  have E_w11 : w11 = [(m9, .inr (5, [.int 0, .ref aS, .ref aK, .null, .int 0, .null, .null, .null, .int 0, .null, .int 0, .null, .null, .null, .null, .null, .int 0, .int 0, .int 0])), (aS, aI G 3600 (fun _ => 0)), (aK, aI G 60 (fun _ => 0))] := by rw [e_w11, E_w8]; rfl
  have h13 : w11[0]? = some (m9, .inr (5, [.int 0, .ref aS, .ref aK, .null, .int 0, .null, .null, .null, .int 0, .null, .int 0, .null, .null, .null, .null, .null, .int 0, .int 0, .int 0])) := by rw [E_w11]; rfl
  refine lv_aload_n hx hb d_M_init_21 rfl (lv_at hl 0 rfl) ?_
  refine lv_bipush (v := (nI 60)) hx hb d_M_init_22 (by decide) ?_
  refine x_newa hx hb (ht _ k_ac_int) hK hP hD hS hA 60 rfl (by decide) (Nat.le_of_ble_eq_true rfl) (Nat.le_of_ble_eq_true rfl) d_M_init_24 (fun aI_ H hP hD hS => ?_)
  refine W.widen (k := 3) (n := 3720) (Nat.le_of_ble_eq_true rfl) (Nat.le_of_ble_eq_true rfl) ?_
  have hP : va_P (xD G) CL (w11 ++ [(aI_, aI G 60 (fun _ => 0))]) H := hP
  have hD : va_D A (w11 ++ [(aI_, aI G 60 (fun _ => 0))]) := hD
  obtain ⟨w14, e_w14⟩ : ∃ zz : va_W, zz = w11 ++ [(aI_, aI G 60 (fun _ => 0))] := ⟨_, rfl⟩
  rw [← e_w14] at hP hD
  have h15 : w14[w11.length]? = some (aI_, aI G 60 (fun _ => 0)) := by rw [e_w14]; exact w_new0
  have E_w14 : w14 = [(m9, .inr (5, [.int 0, .ref aS, .ref aK, .null, .int 0, .null, .null, .null, .int 0, .null, .int 0, .null, .null, .null, .null, .null, .int 0, .int 0, .int 0])), (aS, aI G 3600 (fun _ => 0)), (aK, aI G 60 (fun _ => 0)), (aI_, aI G 60 (fun _ => 0))] := by rw [e_w14, E_w11]; rfl
  have h16 : w14[0]? = some (m9, .inr (5, [.int 0, .ref aS, .ref aK, .null, .int 0, .null, .null, .null, .int 0, .null, .int 0, .null, .null, .null, .null, .null, .int 0, .int 0, .int 0])) := by rw [E_w14]; rfl
  refine va_putF (D := xD G) (ci := 5) (v := .ref aI_) (ty := .array .int) (C := R_M) (T := F_M) (N := 19) hx hb ht in_M ft_M fo_M nm_M hown hK hP hD hS 0 h16 rfl 3 (by decide) (ht _ k_fl_M_16) (fun _ h9 => h9) rfl hin rfl (by decide +kernel) rfl rfl (Nat.le_of_ble_eq_true rfl) d_M_init_26 (fun H locs hP hD hS => ?_)
  have hP : va_P (xD G) CL (w14.set 0 (m9, .inr (5, [.int 0, .ref aS, .ref aK, .ref aI_, .int 0, .null, .null, .null, .int 0, .null, .int 0, .null, .null, .null, .null, .null, .int 0, .int 0, .int 0]))) H := hP
  have hD : va_D A (w14.set 0 (m9, .inr (5, [.int 0, .ref aS, .ref aK, .ref aI_, .int 0, .null, .null, .null, .int 0, .null, .int 0, .null, .null, .null, .null, .null, .int 0, .int 0, .int 0]))) := hD
  obtain ⟨w17, e_w17⟩ : ∃ zz : va_W, zz = w14.set 0 (m9, .inr (5, [.int 0, .ref aS, .ref aK, .ref aI_, .int 0, .null, .null, .null, .int 0, .null, .int 0, .null, .null, .null, .null, .null, .int 0, .int 0, .int 0])) := ⟨_, rfl⟩
  rw [← e_w17] at hP hD
  have h18 : w17[0]? = some (m9, .inr (5, [.int 0, .ref aS, .ref aK, .ref aI_, .int 0, .null, .null, .null, .int 0, .null, .int 0, .null, .null, .null, .null, .null, .int 0, .int 0, .int 0])) := by rw [e_w17]; exact w_eq h16
  have E_w17 : w17 = [(m9, .inr (5, [.int 0, .ref aS, .ref aK, .ref aI_, .int 0, .null, .null, .null, .int 0, .null, .int 0, .null, .null, .null, .null, .null, .int 0, .int 0, .int 0])), (aS, aI G 3600 (fun _ => 0)), (aK, aI G 60 (fun _ => 0)), (aI_, aI G 60 (fun _ => 0))] := by rw [e_w17, E_w14]; rfl
  have h19 : w17[0]? = some (m9, .inr (5, [.int 0, .ref aS, .ref aK, .ref aI_, .int 0, .null, .null, .null, .int 0, .null, .int 0, .null, .null, .null, .null, .null, .int 0, .int 0, .int 0])) := by rw [E_w17]; rfl
  refine lv_aload_n hx hb d_M_init_29 rfl (lv_at hl 0 rfl) ?_
  refine lv_bipush (v := (nI 60)) hx hb d_M_init_30 (by decide) ?_
  refine x_newa hx hb (ht _ k_ac_int) hK hP hD hS hA 60 rfl (by decide) (Nat.le_of_ble_eq_true rfl) (Nat.le_of_ble_eq_true rfl) d_M_init_32 (fun aH H hP hD hS => ?_)
  refine W.widen (k := 4) (n := 3780) (Nat.le_of_ble_eq_true rfl) (Nat.le_of_ble_eq_true rfl) ?_
  have hP : va_P (xD G) CL (w17 ++ [(aH, aI G 60 (fun _ => 0))]) H := hP
  have hD : va_D A (w17 ++ [(aH, aI G 60 (fun _ => 0))]) := hD
  obtain ⟨w20, e_w20⟩ : ∃ zz : va_W, zz = w17 ++ [(aH, aI G 60 (fun _ => 0))] := ⟨_, rfl⟩
  rw [← e_w20] at hP hD
  have h21 : w20[w17.length]? = some (aH, aI G 60 (fun _ => 0)) := by rw [e_w20]; exact w_new0
  have E_w20 : w20 = [(m9, .inr (5, [.int 0, .ref aS, .ref aK, .ref aI_, .int 0, .null, .null, .null, .int 0, .null, .int 0, .null, .null, .null, .null, .null, .int 0, .int 0, .int 0])), (aS, aI G 3600 (fun _ => 0)), (aK, aI G 60 (fun _ => 0)), (aI_, aI G 60 (fun _ => 0)), (aH, aI G 60 (fun _ => 0))] := by rw [e_w20, E_w17]; rfl
  have h22 : w20[0]? = some (m9, .inr (5, [.int 0, .ref aS, .ref aK, .ref aI_, .int 0, .null, .null, .null, .int 0, .null, .int 0, .null, .null, .null, .null, .null, .int 0, .int 0, .int 0])) := by rw [E_w20]; rfl
  refine va_putF (D := xD G) (ci := 5) (v := .ref aH) (ty := .array .int) (C := R_M) (T := F_M) (N := 19) hx hb ht in_M ft_M fo_M nm_M hown hK hP hD hS 0 h22 rfl 5 (by decide) (ht _ k_fl_M_19) (fun _ h9 => h9) rfl hin rfl (by decide +kernel) rfl rfl (Nat.le_of_ble_eq_true rfl) d_M_init_34 (fun H locs hP hD hS => ?_)
  have hP : va_P (xD G) CL (w20.set 0 (m9, .inr (5, [.int 0, .ref aS, .ref aK, .ref aI_, .int 0, .ref aH, .null, .null, .int 0, .null, .int 0, .null, .null, .null, .null, .null, .int 0, .int 0, .int 0]))) H := hP
  have hD : va_D A (w20.set 0 (m9, .inr (5, [.int 0, .ref aS, .ref aK, .ref aI_, .int 0, .ref aH, .null, .null, .int 0, .null, .int 0, .null, .null, .null, .null, .null, .int 0, .int 0, .int 0]))) := hD
  obtain ⟨w23, e_w23⟩ : ∃ zz : va_W, zz = w20.set 0 (m9, .inr (5, [.int 0, .ref aS, .ref aK, .ref aI_, .int 0, .ref aH, .null, .null, .int 0, .null, .int 0, .null, .null, .null, .null, .null, .int 0, .int 0, .int 0])) := ⟨_, rfl⟩
  rw [← e_w23] at hP hD
  have h24 : w23[0]? = some (m9, .inr (5, [.int 0, .ref aS, .ref aK, .ref aI_, .int 0, .ref aH, .null, .null, .int 0, .null, .int 0, .null, .null, .null, .null, .null, .int 0, .int 0, .int 0])) := by rw [e_w23]; exact w_eq h22
  have E_w23 : w23 = [(m9, .inr (5, [.int 0, .ref aS, .ref aK, .ref aI_, .int 0, .ref aH, .null, .null, .int 0, .null, .int 0, .null, .null, .null, .null, .null, .int 0, .int 0, .int 0])), (aS, aI G 3600 (fun _ => 0)), (aK, aI G 60 (fun _ => 0)), (aI_, aI G 60 (fun _ => 0)), (aH, aI G 60 (fun _ => 0))] := by rw [e_w23, E_w20]; rfl
  have h25 : w23[0]? = some (m9, .inr (5, [.int 0, .ref aS, .ref aK, .ref aI_, .int 0, .ref aH, .null, .null, .int 0, .null, .int 0, .null, .null, .null, .null, .null, .int 0, .int 0, .int 0])) := by rw [E_w23]; rfl
  refine lv_aload_n hx hb d_M_init_37 rfl (lv_at hl 0 rfl) ?_
  refine lv_bipush (v := (nI 60)) hx hb d_M_init_38 (by decide) ?_
  refine x_newa hx hb (ht _ k_ac_int) hK hP hD hS hA 60 rfl (by decide) (Nat.le_of_ble_eq_true rfl) (Nat.le_of_ble_eq_true rfl) d_M_init_40 (fun aF H hP hD hS => ?_)
  refine W.widen (k := 5) (n := 3840) (Nat.le_of_ble_eq_true rfl) (Nat.le_of_ble_eq_true rfl) ?_
  have hP : va_P (xD G) CL (w23 ++ [(aF, aI G 60 (fun _ => 0))]) H := hP
  have hD : va_D A (w23 ++ [(aF, aI G 60 (fun _ => 0))]) := hD
  obtain ⟨w26, e_w26⟩ : ∃ zz : va_W, zz = w23 ++ [(aF, aI G 60 (fun _ => 0))] := ⟨_, rfl⟩
  rw [← e_w26] at hP hD
  have h27 : w26[w23.length]? = some (aF, aI G 60 (fun _ => 0)) := by rw [e_w26]; exact w_new0
  have E_w26 : w26 = [(m9, .inr (5, [.int 0, .ref aS, .ref aK, .ref aI_, .int 0, .ref aH, .null, .null, .int 0, .null, .int 0, .null, .null, .null, .null, .null, .int 0, .int 0, .int 0])), (aS, aI G 3600 (fun _ => 0)), (aK, aI G 60 (fun _ => 0)), (aI_, aI G 60 (fun _ => 0)), (aH, aI G 60 (fun _ => 0)), (aF, aI G 60 (fun _ => 0))] := by rw [e_w26, E_w23]; rfl
  have h28 : w26[0]? = some (m9, .inr (5, [.int 0, .ref aS, .ref aK, .ref aI_, .int 0, .ref aH, .null, .null, .int 0, .null, .int 0, .null, .null, .null, .null, .null, .int 0, .int 0, .int 0])) := by rw [E_w26]; rfl
  refine va_putF (D := xD G) (ci := 5) (v := .ref aF) (ty := .array .int) (C := R_M) (T := F_M) (N := 19) hx hb ht in_M ft_M fo_M nm_M hown hK hP hD hS 0 h28 rfl 6 (by decide) (ht _ k_fl_M_22) (fun _ h9 => h9) rfl hin rfl (by decide +kernel) rfl rfl (Nat.le_of_ble_eq_true rfl) d_M_init_42 (fun H locs hP hD hS => ?_)
  have hP : va_P (xD G) CL (w26.set 0 (m9, .inr (5, [.int 0, .ref aS, .ref aK, .ref aI_, .int 0, .ref aH, .ref aF, .null, .int 0, .null, .int 0, .null, .null, .null, .null, .null, .int 0, .int 0, .int 0]))) H := hP
  have hD : va_D A (w26.set 0 (m9, .inr (5, [.int 0, .ref aS, .ref aK, .ref aI_, .int 0, .ref aH, .ref aF, .null, .int 0, .null, .int 0, .null, .null, .null, .null, .null, .int 0, .int 0, .int 0]))) := hD
  obtain ⟨w29, e_w29⟩ : ∃ zz : va_W, zz = w26.set 0 (m9, .inr (5, [.int 0, .ref aS, .ref aK, .ref aI_, .int 0, .ref aH, .ref aF, .null, .int 0, .null, .int 0, .null, .null, .null, .null, .null, .int 0, .int 0, .int 0])) := ⟨_, rfl⟩
  rw [← e_w29] at hP hD
  have h30 : w29[0]? = some (m9, .inr (5, [.int 0, .ref aS, .ref aK, .ref aI_, .int 0, .ref aH, .ref aF, .null, .int 0, .null, .int 0, .null, .null, .null, .null, .null, .int 0, .int 0, .int 0])) := by rw [e_w29]; exact w_eq h28
  have E_w29 : w29 = [(m9, .inr (5, [.int 0, .ref aS, .ref aK, .ref aI_, .int 0, .ref aH, .ref aF, .null, .int 0, .null, .int 0, .null, .null, .null, .null, .null, .int 0, .int 0, .int 0])), (aS, aI G 3600 (fun _ => 0)), (aK, aI G 60 (fun _ => 0)), (aI_, aI G 60 (fun _ => 0)), (aH, aI G 60 (fun _ => 0)), (aF, aI G 60 (fun _ => 0))] := by rw [e_w29, E_w26]; rfl
  have h31 : w29[0]? = some (m9, .inr (5, [.int 0, .ref aS, .ref aK, .ref aI_, .int 0, .ref aH, .ref aF, .null, .int 0, .null, .int 0, .null, .null, .null, .null, .null, .int 0, .int 0, .int 0])) := by rw [E_w29]; rfl
  refine lv_aload_n hx hb d_M_init_45 rfl (lv_at hl 0 rfl) ?_
  refine lv_bipush (v := (nI 60)) hx hb d_M_init_46 (by decide) ?_
  refine x_newa hx hb (ht _ k_ac_int) hK hP hD hS hA 60 rfl (by decide) (Nat.le_of_ble_eq_true rfl) (Nat.le_of_ble_eq_true rfl) d_M_init_48 (fun aG H hP hD hS => ?_)
  refine W.widen (k := 6) (n := 3900) (Nat.le_of_ble_eq_true rfl) (Nat.le_of_ble_eq_true rfl) ?_
  have hP : va_P (xD G) CL (w29 ++ [(aG, aI G 60 (fun _ => 0))]) H := hP
  have hD : va_D A (w29 ++ [(aG, aI G 60 (fun _ => 0))]) := hD
  obtain ⟨w32, e_w32⟩ : ∃ zz : va_W, zz = w29 ++ [(aG, aI G 60 (fun _ => 0))] := ⟨_, rfl⟩
  rw [← e_w32] at hP hD
  have h33 : w32[w29.length]? = some (aG, aI G 60 (fun _ => 0)) := by rw [e_w32]; exact w_new0
  have E_w32 : w32 = [(m9, .inr (5, [.int 0, .ref aS, .ref aK, .ref aI_, .int 0, .ref aH, .ref aF, .null, .int 0, .null, .int 0, .null, .null, .null, .null, .null, .int 0, .int 0, .int 0])), (aS, aI G 3600 (fun _ => 0)), (aK, aI G 60 (fun _ => 0)), (aI_, aI G 60 (fun _ => 0)), (aH, aI G 60 (fun _ => 0)), (aF, aI G 60 (fun _ => 0)), (aG, aI G 60 (fun _ => 0))] := by rw [e_w32, E_w29]; rfl
  have h34 : w32[0]? = some (m9, .inr (5, [.int 0, .ref aS, .ref aK, .ref aI_, .int 0, .ref aH, .ref aF, .null, .int 0, .null, .int 0, .null, .null, .null, .null, .null, .int 0, .int 0, .int 0])) := by rw [E_w32]; rfl
  refine va_putF (D := xD G) (ci := 5) (v := .ref aG) (ty := .array .int) (C := R_M) (T := F_M) (N := 19) hx hb ht in_M ft_M fo_M nm_M hown hK hP hD hS 0 h34 rfl 7 (by decide) (ht _ k_fl_M_25) (fun _ h9 => h9) rfl hin rfl (by decide +kernel) rfl rfl (Nat.le_of_ble_eq_true rfl) d_M_init_50 (fun H locs hP hD hS => ?_)
  have hP : va_P (xD G) CL (w32.set 0 (m9, .inr (5, [.int 0, .ref aS, .ref aK, .ref aI_, .int 0, .ref aH, .ref aF, .ref aG, .int 0, .null, .int 0, .null, .null, .null, .null, .null, .int 0, .int 0, .int 0]))) H := hP
  have hD : va_D A (w32.set 0 (m9, .inr (5, [.int 0, .ref aS, .ref aK, .ref aI_, .int 0, .ref aH, .ref aF, .ref aG, .int 0, .null, .int 0, .null, .null, .null, .null, .null, .int 0, .int 0, .int 0]))) := hD
  obtain ⟨w35, e_w35⟩ : ∃ zz : va_W, zz = w32.set 0 (m9, .inr (5, [.int 0, .ref aS, .ref aK, .ref aI_, .int 0, .ref aH, .ref aF, .ref aG, .int 0, .null, .int 0, .null, .null, .null, .null, .null, .int 0, .int 0, .int 0])) := ⟨_, rfl⟩
  rw [← e_w35] at hP hD
  have h36 : w35[0]? = some (m9, .inr (5, [.int 0, .ref aS, .ref aK, .ref aI_, .int 0, .ref aH, .ref aF, .ref aG, .int 0, .null, .int 0, .null, .null, .null, .null, .null, .int 0, .int 0, .int 0])) := by rw [e_w35]; exact w_eq h34
  have E_w35 : w35 = [(m9, .inr (5, [.int 0, .ref aS, .ref aK, .ref aI_, .int 0, .ref aH, .ref aF, .ref aG, .int 0, .null, .int 0, .null, .null, .null, .null, .null, .int 0, .int 0, .int 0])), (aS, aI G 3600 (fun _ => 0)), (aK, aI G 60 (fun _ => 0)), (aI_, aI G 60 (fun _ => 0)), (aH, aI G 60 (fun _ => 0)), (aF, aI G 60 (fun _ => 0)), (aG, aI G 60 (fun _ => 0))] := by rw [e_w35, E_w32]; rfl
  have h37 : w35[0]? = some (m9, .inr (5, [.int 0, .ref aS, .ref aK, .ref aI_, .int 0, .ref aH, .ref aF, .ref aG, .int 0, .null, .int 0, .null, .null, .null, .null, .null, .int 0, .int 0, .int 0])) := by rw [E_w35]; rfl
  refine lv_aload_n hx hb d_M_init_53 rfl (lv_at hl 0 rfl) ?_
  refine lv_iconst (v := (nI 1)) hx hb d_M_init_54 (by decide) ?_
  refine va_put (D := xD G) (ci := 5) (v := .int (nI 1)) (ty := .int) (C := R_M) (T := F_M) (N := 19) hx hb ht in_M ft_M fo_M nm_M hown hK hP hD hS 0 h37 rfl 8 (by decide) (ht _ k_fl_M_28) (fun _ h9 => h9) rfl (by decide +kernel) rfl rfl (Nat.le_of_ble_eq_true rfl) d_M_init_55 (fun H locs hP hD hS => ?_)
  have hP : va_P (xD G) CL (w35.set 0 (m9, .inr (5, [.int 0, .ref aS, .ref aK, .ref aI_, .int 0, .ref aH, .ref aF, .ref aG, .int (nI 1), .null, .int 0, .null, .null, .null, .null, .null, .int 0, .int 0, .int 0]))) H := hP
  have hD : va_D A (w35.set 0 (m9, .inr (5, [.int 0, .ref aS, .ref aK, .ref aI_, .int 0, .ref aH, .ref aF, .ref aG, .int (nI 1), .null, .int 0, .null, .null, .null, .null, .null, .int 0, .int 0, .int 0]))) := hD
  obtain ⟨w38, e_w38⟩ : ∃ zz : va_W, zz = w35.set 0 (m9, .inr (5, [.int 0, .ref aS, .ref aK, .ref aI_, .int 0, .ref aH, .ref aF, .ref aG, .int (nI 1), .null, .int 0, .null, .null, .null, .null, .null, .int 0, .int 0, .int 0])) := ⟨_, rfl⟩
  rw [← e_w38] at hP hD
  have h39 : w38[0]? = some (m9, .inr (5, [.int 0, .ref aS, .ref aK, .ref aI_, .int 0, .ref aH, .ref aF, .ref aG, .int (nI 1), .null, .int 0, .null, .null, .null, .null, .null, .int 0, .int 0, .int 0])) := by rw [e_w38]; exact w_eq h37
  have E_w38 : w38 = [(m9, .inr (5, [.int 0, .ref aS, .ref aK, .ref aI_, .int 0, .ref aH, .ref aF, .ref aG, .int (nI 1), .null, .int 0, .null, .null, .null, .null, .null, .int 0, .int 0, .int 0])), (aS, aI G 3600 (fun _ => 0)), (aK, aI G 60 (fun _ => 0)), (aI_, aI G 60 (fun _ => 0)), (aH, aI G 60 (fun _ => 0)), (aF, aI G 60 (fun _ => 0)), (aG, aI G 60 (fun _ => 0))] := by rw [e_w38, E_w35]; rfl
  have h40 : w38[0]? = some (m9, .inr (5, [.int 0, .ref aS, .ref aK, .ref aI_, .int 0, .ref aH, .ref aF, .ref aG, .int (nI 1), .null, .int 0, .null, .null, .null, .null, .null, .int 0, .int 0, .int 0])) := by rw [E_w38]; rfl
  refine lv_aload_n hx hb d_M_init_58 rfl (lv_at hl 0 rfl) ?_
  refine lv_sipush (v := (nI 14400)) hx hb d_M_init_59 (by decide) ?_
  refine x_newa hx hb (ht _ k_ac_int) hK hP hD hS hA 14400 rfl (by decide) (Nat.le_of_ble_eq_true rfl) (Nat.le_of_ble_eq_true rfl) d_M_init_62 (fun aR H hP hD hS => ?_)
  refine W.widen (k := 7) (n := 18300) (Nat.le_of_ble_eq_true rfl) (Nat.le_of_ble_eq_true rfl) ?_
  have hP : va_P (xD G) CL (w38 ++ [(aR, aI G 14400 (fun _ => 0))]) H := hP
  have hD : va_D A (w38 ++ [(aR, aI G 14400 (fun _ => 0))]) := hD
  obtain ⟨w41, e_w41⟩ : ∃ zz : va_W, zz = w38 ++ [(aR, aI G 14400 (fun _ => 0))] := ⟨_, rfl⟩
  rw [← e_w41] at hP hD
  have h42 : w41[w38.length]? = some (aR, aI G 14400 (fun _ => 0)) := by rw [e_w41]; exact w_new0
  have E_w41 : w41 = [(m9, .inr (5, [.int 0, .ref aS, .ref aK, .ref aI_, .int 0, .ref aH, .ref aF, .ref aG, .int (nI 1), .null, .int 0, .null, .null, .null, .null, .null, .int 0, .int 0, .int 0])), (aS, aI G 3600 (fun _ => 0)), (aK, aI G 60 (fun _ => 0)), (aI_, aI G 60 (fun _ => 0)), (aH, aI G 60 (fun _ => 0)), (aF, aI G 60 (fun _ => 0)), (aG, aI G 60 (fun _ => 0)), (aR, aI G 14400 (fun _ => 0))] := by rw [e_w41, E_w38]; rfl
  have h43 : w41[0]? = some (m9, .inr (5, [.int 0, .ref aS, .ref aK, .ref aI_, .int 0, .ref aH, .ref aF, .ref aG, .int (nI 1), .null, .int 0, .null, .null, .null, .null, .null, .int 0, .int 0, .int 0])) := by rw [E_w41]; rfl
  refine va_putF (D := xD G) (ci := 5) (v := .ref aR) (ty := .array .int) (C := R_M) (T := F_M) (N := 19) hx hb ht in_M ft_M fo_M nm_M hown hK hP hD hS 0 h43 rfl 9 (by decide) (ht _ k_fl_M_32) (fun _ h9 => h9) rfl hin rfl (by decide +kernel) rfl rfl (Nat.le_of_ble_eq_true rfl) d_M_init_64 (fun H locs hP hD hS => ?_)
  have hP : va_P (xD G) CL (w41.set 0 (m9, .inr (5, [.int 0, .ref aS, .ref aK, .ref aI_, .int 0, .ref aH, .ref aF, .ref aG, .int (nI 1), .ref aR, .int 0, .null, .null, .null, .null, .null, .int 0, .int 0, .int 0]))) H := hP
  have hD : va_D A (w41.set 0 (m9, .inr (5, [.int 0, .ref aS, .ref aK, .ref aI_, .int 0, .ref aH, .ref aF, .ref aG, .int (nI 1), .ref aR, .int 0, .null, .null, .null, .null, .null, .int 0, .int 0, .int 0]))) := hD
  obtain ⟨w44, e_w44⟩ : ∃ zz : va_W, zz = w41.set 0 (m9, .inr (5, [.int 0, .ref aS, .ref aK, .ref aI_, .int 0, .ref aH, .ref aF, .ref aG, .int (nI 1), .ref aR, .int 0, .null, .null, .null, .null, .null, .int 0, .int 0, .int 0])) := ⟨_, rfl⟩
  rw [← e_w44] at hP hD
  have h45 : w44[0]? = some (m9, .inr (5, [.int 0, .ref aS, .ref aK, .ref aI_, .int 0, .ref aH, .ref aF, .ref aG, .int (nI 1), .ref aR, .int 0, .null, .null, .null, .null, .null, .int 0, .int 0, .int 0])) := by rw [e_w44]; exact w_eq h43
  have E_w44 : w44 = [(m9, .inr (5, [.int 0, .ref aS, .ref aK, .ref aI_, .int 0, .ref aH, .ref aF, .ref aG, .int (nI 1), .ref aR, .int 0, .null, .null, .null, .null, .null, .int 0, .int 0, .int 0])), (aS, aI G 3600 (fun _ => 0)), (aK, aI G 60 (fun _ => 0)), (aI_, aI G 60 (fun _ => 0)), (aH, aI G 60 (fun _ => 0)), (aF, aI G 60 (fun _ => 0)), (aG, aI G 60 (fun _ => 0)), (aR, aI G 14400 (fun _ => 0))] := by rw [e_w44, E_w41]; rfl
  have h46 : w44[0]? = some (m9, .inr (5, [.int 0, .ref aS, .ref aK, .ref aI_, .int 0, .ref aH, .ref aF, .ref aG, .int (nI 1), .ref aR, .int 0, .null, .null, .null, .null, .null, .int 0, .int 0, .int 0])) := by rw [E_w44]; rfl
  refine lv_aload_n hx hb d_M_init_67 rfl (lv_at hl 0 rfl) ?_
  refine lv_bipush (v := (nI 60)) hx hb d_M_init_68 (by decide) ?_
  refine x_newa hx hb (ht _ k_ac_int) hK hP hD hS hA 60 rfl (by decide) (Nat.le_of_ble_eq_true rfl) (Nat.le_of_ble_eq_true rfl) d_M_init_70 (fun aL H hP hD hS => ?_)
  refine W.widen (k := 8) (n := 18360) (Nat.le_of_ble_eq_true rfl) (Nat.le_of_ble_eq_true rfl) ?_
  have hP : va_P (xD G) CL (w44 ++ [(aL, aI G 60 (fun _ => 0))]) H := hP
  have hD : va_D A (w44 ++ [(aL, aI G 60 (fun _ => 0))]) := hD
  obtain ⟨w47, e_w47⟩ : ∃ zz : va_W, zz = w44 ++ [(aL, aI G 60 (fun _ => 0))] := ⟨_, rfl⟩
  rw [← e_w47] at hP hD
  have h48 : w47[w44.length]? = some (aL, aI G 60 (fun _ => 0)) := by rw [e_w47]; exact w_new0
  have E_w47 : w47 = [(m9, .inr (5, [.int 0, .ref aS, .ref aK, .ref aI_, .int 0, .ref aH, .ref aF, .ref aG, .int (nI 1), .ref aR, .int 0, .null, .null, .null, .null, .null, .int 0, .int 0, .int 0])), (aS, aI G 3600 (fun _ => 0)), (aK, aI G 60 (fun _ => 0)), (aI_, aI G 60 (fun _ => 0)), (aH, aI G 60 (fun _ => 0)), (aF, aI G 60 (fun _ => 0)), (aG, aI G 60 (fun _ => 0)), (aR, aI G 14400 (fun _ => 0)), (aL, aI G 60 (fun _ => 0))] := by rw [e_w47, E_w44]; rfl
  have h49 : w47[0]? = some (m9, .inr (5, [.int 0, .ref aS, .ref aK, .ref aI_, .int 0, .ref aH, .ref aF, .ref aG, .int (nI 1), .ref aR, .int 0, .null, .null, .null, .null, .null, .int 0, .int 0, .int 0])) := by rw [E_w47]; rfl
  refine va_putF (D := xD G) (ci := 5) (v := .ref aL) (ty := .array .int) (C := R_M) (T := F_M) (N := 19) hx hb ht in_M ft_M fo_M nm_M hown hK hP hD hS 0 h49 rfl 11 (by decide) (ht _ k_fl_M_35) (fun _ h9 => h9) rfl hin rfl (by decide +kernel) rfl rfl (Nat.le_of_ble_eq_true rfl) d_M_init_72 (fun H locs hP hD hS => ?_)
  have hP : va_P (xD G) CL (w47.set 0 (m9, .inr (5, [.int 0, .ref aS, .ref aK, .ref aI_, .int 0, .ref aH, .ref aF, .ref aG, .int (nI 1), .ref aR, .int 0, .ref aL, .null, .null, .null, .null, .int 0, .int 0, .int 0]))) H := hP
  have hD : va_D A (w47.set 0 (m9, .inr (5, [.int 0, .ref aS, .ref aK, .ref aI_, .int 0, .ref aH, .ref aF, .ref aG, .int (nI 1), .ref aR, .int 0, .ref aL, .null, .null, .null, .null, .int 0, .int 0, .int 0]))) := hD
  obtain ⟨w50, e_w50⟩ : ∃ zz : va_W, zz = w47.set 0 (m9, .inr (5, [.int 0, .ref aS, .ref aK, .ref aI_, .int 0, .ref aH, .ref aF, .ref aG, .int (nI 1), .ref aR, .int 0, .ref aL, .null, .null, .null, .null, .int 0, .int 0, .int 0])) := ⟨_, rfl⟩
  rw [← e_w50] at hP hD
  have h51 : w50[0]? = some (m9, .inr (5, [.int 0, .ref aS, .ref aK, .ref aI_, .int 0, .ref aH, .ref aF, .ref aG, .int (nI 1), .ref aR, .int 0, .ref aL, .null, .null, .null, .null, .int 0, .int 0, .int 0])) := by rw [e_w50]; exact w_eq h49
  have E_w50 : w50 = [(m9, .inr (5, [.int 0, .ref aS, .ref aK, .ref aI_, .int 0, .ref aH, .ref aF, .ref aG, .int (nI 1), .ref aR, .int 0, .ref aL, .null, .null, .null, .null, .int 0, .int 0, .int 0])), (aS, aI G 3600 (fun _ => 0)), (aK, aI G 60 (fun _ => 0)), (aI_, aI G 60 (fun _ => 0)), (aH, aI G 60 (fun _ => 0)), (aF, aI G 60 (fun _ => 0)), (aG, aI G 60 (fun _ => 0)), (aR, aI G 14400 (fun _ => 0)), (aL, aI G 60 (fun _ => 0))] := by rw [e_w50, E_w47]; rfl
  have h52 : w50[0]? = some (m9, .inr (5, [.int 0, .ref aS, .ref aK, .ref aI_, .int 0, .ref aH, .ref aF, .ref aG, .int (nI 1), .ref aR, .int 0, .ref aL, .null, .null, .null, .null, .int 0, .int 0, .int 0])) := by rw [E_w50]; rfl
  refine lv_aload_n hx hb d_M_init_75 rfl (lv_at hl 0 rfl) ?_
  refine lv_bipush (v := (nI 60)) hx hb d_M_init_76 (by decide) ?_
  refine x_newa hx hb (ht _ k_ac_int) hK hP hD hS hA 60 rfl (by decide) (Nat.le_of_ble_eq_true rfl) (Nat.le_of_ble_eq_true rfl) d_M_init_78 (fun aT H hP hD hS => ?_)
  refine W.widen (k := 9) (n := 18420) (Nat.le_of_ble_eq_true rfl) (Nat.le_of_ble_eq_true rfl) ?_
  have hP : va_P (xD G) CL (w50 ++ [(aT, aI G 60 (fun _ => 0))]) H := hP
  have hD : va_D A (w50 ++ [(aT, aI G 60 (fun _ => 0))]) := hD
  obtain ⟨w53, e_w53⟩ : ∃ zz : va_W, zz = w50 ++ [(aT, aI G 60 (fun _ => 0))] := ⟨_, rfl⟩
  rw [← e_w53] at hP hD
  have h54 : w53[w50.length]? = some (aT, aI G 60 (fun _ => 0)) := by rw [e_w53]; exact w_new0
  have E_w53 : w53 = [(m9, .inr (5, [.int 0, .ref aS, .ref aK, .ref aI_, .int 0, .ref aH, .ref aF, .ref aG, .int (nI 1), .ref aR, .int 0, .ref aL, .null, .null, .null, .null, .int 0, .int 0, .int 0])), (aS, aI G 3600 (fun _ => 0)), (aK, aI G 60 (fun _ => 0)), (aI_, aI G 60 (fun _ => 0)), (aH, aI G 60 (fun _ => 0)), (aF, aI G 60 (fun _ => 0)), (aG, aI G 60 (fun _ => 0)), (aR, aI G 14400 (fun _ => 0)), (aL, aI G 60 (fun _ => 0)), (aT, aI G 60 (fun _ => 0))] := by rw [e_w53, E_w50]; rfl
  have h55 : w53[0]? = some (m9, .inr (5, [.int 0, .ref aS, .ref aK, .ref aI_, .int 0, .ref aH, .ref aF, .ref aG, .int (nI 1), .ref aR, .int 0, .ref aL, .null, .null, .null, .null, .int 0, .int 0, .int 0])) := by rw [E_w53]; rfl
  refine va_putF (D := xD G) (ci := 5) (v := .ref aT) (ty := .array .int) (C := R_M) (T := F_M) (N := 19) hx hb ht in_M ft_M fo_M nm_M hown hK hP hD hS 0 h55 rfl 12 (by decide) (ht _ k_fl_M_38) (fun _ h9 => h9) rfl hin rfl (by decide +kernel) rfl rfl (Nat.le_of_ble_eq_true rfl) d_M_init_80 (fun H locs hP hD hS => ?_)
  have hP : va_P (xD G) CL (w53.set 0 (m9, .inr (5, [.int 0, .ref aS, .ref aK, .ref aI_, .int 0, .ref aH, .ref aF, .ref aG, .int (nI 1), .ref aR, .int 0, .ref aL, .ref aT, .null, .null, .null, .int 0, .int 0, .int 0]))) H := hP
  have hD : va_D A (w53.set 0 (m9, .inr (5, [.int 0, .ref aS, .ref aK, .ref aI_, .int 0, .ref aH, .ref aF, .ref aG, .int (nI 1), .ref aR, .int 0, .ref aL, .ref aT, .null, .null, .null, .int 0, .int 0, .int 0]))) := hD
  obtain ⟨w56, e_w56⟩ : ∃ zz : va_W, zz = w53.set 0 (m9, .inr (5, [.int 0, .ref aS, .ref aK, .ref aI_, .int 0, .ref aH, .ref aF, .ref aG, .int (nI 1), .ref aR, .int 0, .ref aL, .ref aT, .null, .null, .null, .int 0, .int 0, .int 0])) := ⟨_, rfl⟩
  rw [← e_w56] at hP hD
  have h57 : w56[0]? = some (m9, .inr (5, [.int 0, .ref aS, .ref aK, .ref aI_, .int 0, .ref aH, .ref aF, .ref aG, .int (nI 1), .ref aR, .int 0, .ref aL, .ref aT, .null, .null, .null, .int 0, .int 0, .int 0])) := by rw [e_w56]; exact w_eq h55
  have E_w56 : w56 = [(m9, .inr (5, [.int 0, .ref aS, .ref aK, .ref aI_, .int 0, .ref aH, .ref aF, .ref aG, .int (nI 1), .ref aR, .int 0, .ref aL, .ref aT, .null, .null, .null, .int 0, .int 0, .int 0])), (aS, aI G 3600 (fun _ => 0)), (aK, aI G 60 (fun _ => 0)), (aI_, aI G 60 (fun _ => 0)), (aH, aI G 60 (fun _ => 0)), (aF, aI G 60 (fun _ => 0)), (aG, aI G 60 (fun _ => 0)), (aR, aI G 14400 (fun _ => 0)), (aL, aI G 60 (fun _ => 0)), (aT, aI G 60 (fun _ => 0))] := by rw [e_w56, E_w53]; rfl
  have h58 : w56[0]? = some (m9, .inr (5, [.int 0, .ref aS, .ref aK, .ref aI_, .int 0, .ref aH, .ref aF, .ref aG, .int (nI 1), .ref aR, .int 0, .ref aL, .ref aT, .null, .null, .null, .int 0, .int 0, .int 0])) := by rw [E_w56]; rfl
  refine lv_aload_n hx hb d_M_init_83 rfl (lv_at hl 0 rfl) ?_
  refine lv_bipush (v := (nI 60)) hx hb d_M_init_84 (by decide) ?_
  refine x_newa hx hb (ht _ k_ac_int) hK hP hD hS hA 60 rfl (by decide) (Nat.le_of_ble_eq_true rfl) (Nat.le_of_ble_eq_true rfl) d_M_init_86 (fun aO H hP hD hS => ?_)
  refine W.widen (k := 10) (n := 18480) (Nat.le_of_ble_eq_true rfl) (Nat.le_of_ble_eq_true rfl) ?_
  have hP : va_P (xD G) CL (w56 ++ [(aO, aI G 60 (fun _ => 0))]) H := hP
  have hD : va_D A (w56 ++ [(aO, aI G 60 (fun _ => 0))]) := hD
  obtain ⟨w59, e_w59⟩ : ∃ zz : va_W, zz = w56 ++ [(aO, aI G 60 (fun _ => 0))] := ⟨_, rfl⟩
  rw [← e_w59] at hP hD
  have h60 : w59[w56.length]? = some (aO, aI G 60 (fun _ => 0)) := by rw [e_w59]; exact w_new0
  have E_w59 : w59 = [(m9, .inr (5, [.int 0, .ref aS, .ref aK, .ref aI_, .int 0, .ref aH, .ref aF, .ref aG, .int (nI 1), .ref aR, .int 0, .ref aL, .ref aT, .null, .null, .null, .int 0, .int 0, .int 0])), (aS, aI G 3600 (fun _ => 0)), (aK, aI G 60 (fun _ => 0)), (aI_, aI G 60 (fun _ => 0)), (aH, aI G 60 (fun _ => 0)), (aF, aI G 60 (fun _ => 0)), (aG, aI G 60 (fun _ => 0)), (aR, aI G 14400 (fun _ => 0)), (aL, aI G 60 (fun _ => 0)), (aT, aI G 60 (fun _ => 0)), (aO, aI G 60 (fun _ => 0))] := by rw [e_w59, E_w56]; rfl
  have h61 : w59[0]? = some (m9, .inr (5, [.int 0, .ref aS, .ref aK, .ref aI_, .int 0, .ref aH, .ref aF, .ref aG, .int (nI 1), .ref aR, .int 0, .ref aL, .ref aT, .null, .null, .null, .int 0, .int 0, .int 0])) := by rw [E_w59]; rfl
  refine va_putF (D := xD G) (ci := 5) (v := .ref aO) (ty := .array .int) (C := R_M) (T := F_M) (N := 19) hx hb ht in_M ft_M fo_M nm_M hown hK hP hD hS 0 h61 rfl 13 (by decide) (ht _ k_fl_M_41) (fun _ h9 => h9) rfl hin rfl (by decide +kernel) rfl rfl (Nat.le_of_ble_eq_true rfl) d_M_init_88 (fun H locs hP hD hS => ?_)
  have hP : va_P (xD G) CL (w59.set 0 (m9, .inr (5, [.int 0, .ref aS, .ref aK, .ref aI_, .int 0, .ref aH, .ref aF, .ref aG, .int (nI 1), .ref aR, .int 0, .ref aL, .ref aT, .ref aO, .null, .null, .int 0, .int 0, .int 0]))) H := hP
  have hD : va_D A (w59.set 0 (m9, .inr (5, [.int 0, .ref aS, .ref aK, .ref aI_, .int 0, .ref aH, .ref aF, .ref aG, .int (nI 1), .ref aR, .int 0, .ref aL, .ref aT, .ref aO, .null, .null, .int 0, .int 0, .int 0]))) := hD
  obtain ⟨w62, e_w62⟩ : ∃ zz : va_W, zz = w59.set 0 (m9, .inr (5, [.int 0, .ref aS, .ref aK, .ref aI_, .int 0, .ref aH, .ref aF, .ref aG, .int (nI 1), .ref aR, .int 0, .ref aL, .ref aT, .ref aO, .null, .null, .int 0, .int 0, .int 0])) := ⟨_, rfl⟩
  rw [← e_w62] at hP hD
  have h63 : w62[0]? = some (m9, .inr (5, [.int 0, .ref aS, .ref aK, .ref aI_, .int 0, .ref aH, .ref aF, .ref aG, .int (nI 1), .ref aR, .int 0, .ref aL, .ref aT, .ref aO, .null, .null, .int 0, .int 0, .int 0])) := by rw [e_w62]; exact w_eq h61
  have E_w62 : w62 = [(m9, .inr (5, [.int 0, .ref aS, .ref aK, .ref aI_, .int 0, .ref aH, .ref aF, .ref aG, .int (nI 1), .ref aR, .int 0, .ref aL, .ref aT, .ref aO, .null, .null, .int 0, .int 0, .int 0])), (aS, aI G 3600 (fun _ => 0)), (aK, aI G 60 (fun _ => 0)), (aI_, aI G 60 (fun _ => 0)), (aH, aI G 60 (fun _ => 0)), (aF, aI G 60 (fun _ => 0)), (aG, aI G 60 (fun _ => 0)), (aR, aI G 14400 (fun _ => 0)), (aL, aI G 60 (fun _ => 0)), (aT, aI G 60 (fun _ => 0)), (aO, aI G 60 (fun _ => 0))] := by rw [e_w62, E_w59]; rfl
  have h64 : w62[0]? = some (m9, .inr (5, [.int 0, .ref aS, .ref aK, .ref aI_, .int 0, .ref aH, .ref aF, .ref aG, .int (nI 1), .ref aR, .int 0, .ref aL, .ref aT, .ref aO, .null, .null, .int 0, .int 0, .int 0])) := by rw [E_w62]; rfl
  refine lv_aload_n hx hb d_M_init_91 rfl (lv_at hl 0 rfl) ?_
  refine lv_bipush (v := (nI 60)) hx hb d_M_init_92 (by decide) ?_
  refine x_newa hx hb (ht _ k_ac_int) hK hP hD hS hA 60 rfl (by decide) (Nat.le_of_ble_eq_true rfl) (Nat.le_of_ble_eq_true rfl) d_M_init_94 (fun aB H hP hD hS => ?_)
  refine W.widen (k := 11) (n := 18540) (Nat.le_of_ble_eq_true rfl) (Nat.le_of_ble_eq_true rfl) ?_
  have hP : va_P (xD G) CL (w62 ++ [(aB, aI G 60 (fun _ => 0))]) H := hP
  have hD : va_D A (w62 ++ [(aB, aI G 60 (fun _ => 0))]) := hD
  obtain ⟨w65, e_w65⟩ : ∃ zz : va_W, zz = w62 ++ [(aB, aI G 60 (fun _ => 0))] := ⟨_, rfl⟩
  rw [← e_w65] at hP hD
  have h66 : w65[w62.length]? = some (aB, aI G 60 (fun _ => 0)) := by rw [e_w65]; exact w_new0
  have E_w65 : w65 = [(m9, .inr (5, [.int 0, .ref aS, .ref aK, .ref aI_, .int 0, .ref aH, .ref aF, .ref aG, .int (nI 1), .ref aR, .int 0, .ref aL, .ref aT, .ref aO, .null, .null, .int 0, .int 0, .int 0])), (aS, aI G 3600 (fun _ => 0)), (aK, aI G 60 (fun _ => 0)), (aI_, aI G 60 (fun _ => 0)), (aH, aI G 60 (fun _ => 0)), (aF, aI G 60 (fun _ => 0)), (aG, aI G 60 (fun _ => 0)), (aR, aI G 14400 (fun _ => 0)), (aL, aI G 60 (fun _ => 0)), (aT, aI G 60 (fun _ => 0)), (aO, aI G 60 (fun _ => 0)), (aB, aI G 60 (fun _ => 0))] := by rw [e_w65, E_w62]; rfl
  have h67 : w65[0]? = some (m9, .inr (5, [.int 0, .ref aS, .ref aK, .ref aI_, .int 0, .ref aH, .ref aF, .ref aG, .int (nI 1), .ref aR, .int 0, .ref aL, .ref aT, .ref aO, .null, .null, .int 0, .int 0, .int 0])) := by rw [E_w65]; rfl
  refine va_putF (D := xD G) (ci := 5) (v := .ref aB) (ty := .array .int) (C := R_M) (T := F_M) (N := 19) hx hb ht in_M ft_M fo_M nm_M hown hK hP hD hS 0 h67 rfl 14 (by decide) (ht _ k_fl_M_44) (fun _ h9 => h9) rfl hin rfl (by decide +kernel) rfl rfl (Nat.le_of_ble_eq_true rfl) d_M_init_96 (fun H locs hP hD hS => ?_)
  have hP : va_P (xD G) CL (w65.set 0 (m9, .inr (5, [.int 0, .ref aS, .ref aK, .ref aI_, .int 0, .ref aH, .ref aF, .ref aG, .int (nI 1), .ref aR, .int 0, .ref aL, .ref aT, .ref aO, .ref aB, .null, .int 0, .int 0, .int 0]))) H := hP
  have hD : va_D A (w65.set 0 (m9, .inr (5, [.int 0, .ref aS, .ref aK, .ref aI_, .int 0, .ref aH, .ref aF, .ref aG, .int (nI 1), .ref aR, .int 0, .ref aL, .ref aT, .ref aO, .ref aB, .null, .int 0, .int 0, .int 0]))) := hD
  obtain ⟨w68, e_w68⟩ : ∃ zz : va_W, zz = w65.set 0 (m9, .inr (5, [.int 0, .ref aS, .ref aK, .ref aI_, .int 0, .ref aH, .ref aF, .ref aG, .int (nI 1), .ref aR, .int 0, .ref aL, .ref aT, .ref aO, .ref aB, .null, .int 0, .int 0, .int 0])) := ⟨_, rfl⟩
  rw [← e_w68] at hP hD
  have h69 : w68[0]? = some (m9, .inr (5, [.int 0, .ref aS, .ref aK, .ref aI_, .int 0, .ref aH, .ref aF, .ref aG, .int (nI 1), .ref aR, .int 0, .ref aL, .ref aT, .ref aO, .ref aB, .null, .int 0, .int 0, .int 0])) := by rw [e_w68]; exact w_eq h67
  have E_w68 : w68 = [(m9, .inr (5, [.int 0, .ref aS, .ref aK, .ref aI_, .int 0, .ref aH, .ref aF, .ref aG, .int (nI 1), .ref aR, .int 0, .ref aL, .ref aT, .ref aO, .ref aB, .null, .int 0, .int 0, .int 0])), (aS, aI G 3600 (fun _ => 0)), (aK, aI G 60 (fun _ => 0)), (aI_, aI G 60 (fun _ => 0)), (aH, aI G 60 (fun _ => 0)), (aF, aI G 60 (fun _ => 0)), (aG, aI G 60 (fun _ => 0)), (aR, aI G 14400 (fun _ => 0)), (aL, aI G 60 (fun _ => 0)), (aT, aI G 60 (fun _ => 0)), (aO, aI G 60 (fun _ => 0)), (aB, aI G 60 (fun _ => 0))] := by rw [e_w68, E_w65]; rfl
  have h70 : w68[0]? = some (m9, .inr (5, [.int 0, .ref aS, .ref aK, .ref aI_, .int 0, .ref aH, .ref aF, .ref aG, .int (nI 1), .ref aR, .int 0, .ref aL, .ref aT, .ref aO, .ref aB, .null, .int 0, .int 0, .int 0])) := by rw [E_w68]; rfl
  refine lv_aload_n hx hb d_M_init_99 rfl (lv_at hl 0 rfl) ?_
  refine lv_bipush (v := (nI 60)) hx hb d_M_init_100 (by decide) ?_
  refine x_newa hx hb (ht _ k_ac_int) hK hP hD hS hA 60 rfl (by decide) (Nat.le_of_ble_eq_true rfl) (Nat.le_of_ble_eq_true rfl) d_M_init_102 (fun aW H hP hD hS => ?_)
  refine W.widen (k := 12) (n := 18600) (Nat.le_of_ble_eq_true rfl) (Nat.le_of_ble_eq_true rfl) ?_
  have hP : va_P (xD G) CL (w68 ++ [(aW, aI G 60 (fun _ => 0))]) H := hP
  have hD : va_D A (w68 ++ [(aW, aI G 60 (fun _ => 0))]) := hD
  obtain ⟨w71, e_w71⟩ : ∃ zz : va_W, zz = w68 ++ [(aW, aI G 60 (fun _ => 0))] := ⟨_, rfl⟩
  rw [← e_w71] at hP hD
  have h72 : w71[w68.length]? = some (aW, aI G 60 (fun _ => 0)) := by rw [e_w71]; exact w_new0
  have E_w71 : w71 = [(m9, .inr (5, [.int 0, .ref aS, .ref aK, .ref aI_, .int 0, .ref aH, .ref aF, .ref aG, .int (nI 1), .ref aR, .int 0, .ref aL, .ref aT, .ref aO, .ref aB, .null, .int 0, .int 0, .int 0])), (aS, aI G 3600 (fun _ => 0)), (aK, aI G 60 (fun _ => 0)), (aI_, aI G 60 (fun _ => 0)), (aH, aI G 60 (fun _ => 0)), (aF, aI G 60 (fun _ => 0)), (aG, aI G 60 (fun _ => 0)), (aR, aI G 14400 (fun _ => 0)), (aL, aI G 60 (fun _ => 0)), (aT, aI G 60 (fun _ => 0)), (aO, aI G 60 (fun _ => 0)), (aB, aI G 60 (fun _ => 0)), (aW, aI G 60 (fun _ => 0))] := by rw [e_w71, E_w68]; rfl
  have h73 : w71[0]? = some (m9, .inr (5, [.int 0, .ref aS, .ref aK, .ref aI_, .int 0, .ref aH, .ref aF, .ref aG, .int (nI 1), .ref aR, .int 0, .ref aL, .ref aT, .ref aO, .ref aB, .null, .int 0, .int 0, .int 0])) := by rw [E_w71]; rfl
  refine va_putF (D := xD G) (ci := 5) (v := .ref aW) (ty := .array .int) (C := R_M) (T := F_M) (N := 19) hx hb ht in_M ft_M fo_M nm_M hown hK hP hD hS 0 h73 rfl 15 (by decide) (ht _ k_fl_M_47) (fun _ h9 => h9) rfl hin rfl (by decide +kernel) rfl rfl (Nat.le_of_ble_eq_true rfl) d_M_init_104 (fun H locs hP hD hS => ?_)
  have hP : va_P (xD G) CL (w71.set 0 (m9, .inr (5, [.int 0, .ref aS, .ref aK, .ref aI_, .int 0, .ref aH, .ref aF, .ref aG, .int (nI 1), .ref aR, .int 0, .ref aL, .ref aT, .ref aO, .ref aB, .ref aW, .int 0, .int 0, .int 0]))) H := hP
  have hD : va_D A (w71.set 0 (m9, .inr (5, [.int 0, .ref aS, .ref aK, .ref aI_, .int 0, .ref aH, .ref aF, .ref aG, .int (nI 1), .ref aR, .int 0, .ref aL, .ref aT, .ref aO, .ref aB, .ref aW, .int 0, .int 0, .int 0]))) := hD
  obtain ⟨w74, e_w74⟩ : ∃ zz : va_W, zz = w71.set 0 (m9, .inr (5, [.int 0, .ref aS, .ref aK, .ref aI_, .int 0, .ref aH, .ref aF, .ref aG, .int (nI 1), .ref aR, .int 0, .ref aL, .ref aT, .ref aO, .ref aB, .ref aW, .int 0, .int 0, .int 0])) := ⟨_, rfl⟩
  rw [← e_w74] at hP hD
  have h75 : w74[0]? = some (m9, .inr (5, [.int 0, .ref aS, .ref aK, .ref aI_, .int 0, .ref aH, .ref aF, .ref aG, .int (nI 1), .ref aR, .int 0, .ref aL, .ref aT, .ref aO, .ref aB, .ref aW, .int 0, .int 0, .int 0])) := by rw [e_w74]; exact w_eq h73
  have E_w74 : w74 = [(m9, .inr (5, [.int 0, .ref aS, .ref aK, .ref aI_, .int 0, .ref aH, .ref aF, .ref aG, .int (nI 1), .ref aR, .int 0, .ref aL, .ref aT, .ref aO, .ref aB, .ref aW, .int 0, .int 0, .int 0])), (aS, aI G 3600 (fun _ => 0)), (aK, aI G 60 (fun _ => 0)), (aI_, aI G 60 (fun _ => 0)), (aH, aI G 60 (fun _ => 0)), (aF, aI G 60 (fun _ => 0)), (aG, aI G 60 (fun _ => 0)), (aR, aI G 14400 (fun _ => 0)), (aL, aI G 60 (fun _ => 0)), (aT, aI G 60 (fun _ => 0)), (aO, aI G 60 (fun _ => 0)), (aB, aI G 60 (fun _ => 0)), (aW, aI G 60 (fun _ => 0))] := by rw [e_w74, E_w71]; rfl
  have h76 : w74[0]? = some (m9, .inr (5, [.int 0, .ref aS, .ref aK, .ref aI_, .int 0, .ref aH, .ref aF, .ref aG, .int (nI 1), .ref aR, .int 0, .ref aL, .ref aT, .ref aO, .ref aB, .ref aW, .int 0, .int 0, .int 0])) := by rw [E_w74]; rfl
  exact x_vret hx hb hr hlocks hS hP hD (Nat.le_of_ble_eq_true rfl) (Nat.le_of_ble_eq_true rfl) d_M_init_107 (⟨(m9, aS, aK, aI_, aH, aF, aG, aR, aL, aT, aO, aB, aW), rfl, by rw [E_w74]; rfl⟩)
