theorem ovb_s0 {n : Nat} {f g : Nat → Nat} : va_up (ovb n 0 f g) n (g n) = ovb (n + 1) 0 f g := by
  have h := @ovb_s n 0 f g
  rw [Nat.zero_add] at h
  exact h
theorem sub1 {n : Nat} (h : n < 2 ^ 31) : (nI n - nI 1).toInt = (n : Int) - 1 := by
  by_cases h0 : n = 0
  · subst h0; decide
  · rw [pk_sub (by omega), nI_toInt (by omega)]; omega
theorem in_md {n : Nat} {x : Int32} (h : n < 2 ^ 31) : (¬ x < nI 0 ∧ ¬ (nI n - nI 1) < x) ↔ md n x := by
  constructor
  · rintro ⟨h1, h2⟩
    rw [Int32.lt_iff_toInt_lt, nI_toInt (by decide)] at h1
    rw [Int32.lt_iff_toInt_lt, sub1 h] at h2
    refine ⟨x.toInt.toNat, by omega, ?_⟩
    apply Int32.toInt_inj.mp
    rw [nI_toInt (by omega)]
    omega
  · rintro ⟨j, hj, rfl⟩
    rw [Int32.lt_iff_toInt_lt, Int32.lt_iff_toInt_lt, sub1 h, nI_toInt (show j < 2 ^ 31 by omega), nI_toInt (show 0 < 2 ^ 31 by decide)]
    omega
theorem in_md1 {n : Nat} {x : Int32} (h : n < 2 ^ 31) : (¬ x < nI 1 ∧ ¬ (nI n - nI 1) < x) ↔ ∃ j, 1 ≤ j ∧ j < n ∧ x = nI j := by
  constructor
  · rintro ⟨h1, h2⟩
    rw [Int32.lt_iff_toInt_lt, nI_toInt (by decide)] at h1
    rw [Int32.lt_iff_toInt_lt, sub1 h] at h2
    refine ⟨x.toInt.toNat, by omega, by omega, ?_⟩
    apply Int32.toInt_inj.mp
    rw [nI_toInt (by omega)]
    omega
  · rintro ⟨j, h1, hj, rfl⟩
    rw [Int32.lt_iff_toInt_lt, Int32.lt_iff_toInt_lt, sub1 h, nI_toInt (show j < 2 ^ 31 by omega), nI_toInt (show 1 < 2 ^ 31 by decide)]
    omega
theorem in_mdn {m : Nat} {x : Int32} (h : m < 2 ^ 30) : (¬ x < nI 0 ∧ ¬ nI m < x) ↔ md (m + 1) x := by
  constructor
  · rintro ⟨h1, h2⟩
    rw [Int32.lt_iff_toInt_lt, nI_toInt (by decide)] at h1
    rw [Int32.lt_iff_toInt_lt, nI_toInt (by omega)] at h2
    refine ⟨x.toInt.toNat, by omega, ?_⟩
    apply Int32.toInt_inj.mp
    rw [nI_toInt (by omega)]
    omega
  · rintro ⟨j, hj, rfl⟩
    rw [Int32.lt_iff_toInt_lt, Int32.lt_iff_toInt_lt, nI_toInt (show j < 2 ^ 31 by omega), nI_toInt (show 0 < 2 ^ 31 by decide), nI_toInt (show m < 2 ^ 31 by omega)]
    omega
theorem not_or2 {a b : Prop} (h : a ∨ b) (q : ¬ a ∧ ¬ b) : False := h.elim q.1 q.2

set_option maxHeartbeats 4000000 in
set_option maxRecDepth 100000 in
theorem c_M_made (l : Launch) (G : xG) (A : Nat → Prop) (ws : va_W) (a : MA) (st : MS) (hw : ws = mW G a st) (bE : st.ex ≤ 60) (x : Int32) : Met l y_M_made (cw_M_made :: TW) { frames := 2, cells := 0, slots := 0, locals := 52 } (va_Pc [.ref a.m, .int x] (x_P G A ws)) (qI G A (fun r w9 => ws = w9 ∧ ((r = nI 1 ∧ md st.ex x) ∨ (r = nI 0 ∧ ¬ md st.ex x)))) 0 0 A := by
  refine Met.ofW (cc := b_M_made) (maxL := 2) (ret := (some .boolean)) (by decide) rfl ?_
  intro p e s m args below meth c s₁ B hml hv
  obtain ⟨rfl, hE, hA, hP, hD⟩ := hv
  have hx := B.exec
  have hb := B.bytes
  have hr := B.returns
  have ht : ∀ w ∈ TW, w.before _ s = true := fun w h => atoms_spec (ws := cw_M_made :: TW) B.pre w (List.mem_cons_of_mem _ h)
  have hown : s.vm.findClass R_M = some m.cls := findClass_of_methodNamed B.named
  have hlocks := B.notSynchronized
  have hK := hE.1
  have hS : va_S A s.heap s.heap [] := va_S.rf
  have hl := lv_entry ([.ref a.m, .int x]) (n := 2) (Nat.le_of_ble_eq_true rfl)
  rw [lg_entry_eq]
  generalize (lg_sl ([.ref a.m, .int x]) ++ List.replicate (2 - (lg_sl ([.ref a.m, .int x])).length) Slot.unset).toArray = ls at hl ⊢
  have hl : lv_has ls 2 [(0, .ref a.m), (1, .int x)] := hl
  have h1 : ws[0]? = some (a.m, .inr (5, [.int (nI st.th), .ref a.aS, .ref a.aK, .ref a.aI, .int (nI st.ex), .ref a.aH, .ref a.aF, .ref a.aG, .int (nI st.va), .ref a.aR, .int (nI st.co), .ref a.aL, .ref a.aT, .ref a.aO, .ref a.aB, .ref a.aW, .int (nI st.sv), .int (nI st.kn), .int (nI st.kc)])) := by rw [hw]; rfl
  refine lv_iload_n hx hb d_M_made_0 rfl (lv_at hl 1 rfl) ?_
  refine lv_iconst (v := (nI 0)) hx hb d_M_made_1 (by decide) ?_
  refine lv_aload_n hx hb d_M_made_2 rfl (lv_at hl 0 rfl) ?_
  refine va_get (D := xD G) (ci := 5) (C := R_M) (T := F_M) (N := 19) hx hb ht in_M hown hK hP 0 h1 rfl 4 (by decide) (ht _ k_fl_M_53) (fun _ h9 => h9) rfl d_M_made_3 ?_
  refine lv_iconst (v := (nI 1)) hx hb d_M_made_6 (by decide) ?_
  refine lv_isub hx hb d_M_made_7 ?_
  refine x_calli (va_runS (As := [.int x, .int (nI 0), .int (nI st.ex - nI 1)]) (rest := []) ⟨hx, hb, hml, hown, ht⟩ (c_M_in l G A ws x (nI 0) (nI st.ex - nI 1)) (va_cwS 3 ht (TW_S k_ml_M_56 k_st_M_in k_in_M k_code_M_in) rfl rfl rfl hv_M_in.2 ⟨Nat.le_of_ble_eq_true rfl, Nat.le_of_ble_eq_true rfl⟩) ⟨x_blind, x_pre hE hA hS hP hD⟩ rfl rfl hl.1 rfl (lv_room (Nat.le_of_ble_eq_true rfl)) d_M_made_8 ⟨Nat.le_of_ble_eq_true rfl, Nat.le_of_ble_eq_true rfl⟩) hS (fun r4 w3 H locs q2 hP hD hS => ?_)
  obtain ⟨rfl, ⟨rfl, hm⟩ | ⟨rfl, hm⟩⟩ := q2
  · exact x_zret hx hb hr hlocks hS hP hD (Nat.le_of_ble_eq_true rfl) (Nat.le_of_ble_eq_true rfl) d_M_made_11 rfl (⟨rfl, Or.inl ⟨rfl, (in_md (by omega)).mp hm⟩⟩)
  · exact x_zret hx hb hr hlocks hS hP hD (Nat.le_of_ble_eq_true rfl) (Nat.le_of_ble_eq_true rfl) d_M_made_11 rfl (⟨rfl, Or.inr ⟨rfl, fun q => not_or2 hm ((in_md (by omega)).mpr q)⟩⟩)

set_option maxHeartbeats 4000000 in
set_option maxRecDepth 100000 in
theorem c_M_inverse (l : Launch) (G : xG) (A : Nat → Prop) (ws : va_W) (v : Nat) (hv : v < 97) : Met l y_M_inverse (cw_M_inverse :: TW) { frames := 1, cells := 0, slots := 0, locals := 26 } (va_Pc [.int (nI v)] (x_P G A ws)) (qI G A (fun r w9 => ws = w9 ∧ r = nI (inv97 v))) 0 0 A := by
  refine Met.ofW (cc := b_M_inverse) (maxL := 2) (ret := (some .int)) (by decide) rfl ?_
  intro p e s m args below meth c s₁ B hml hv
  obtain ⟨rfl, hE, hA, hP, hD⟩ := hv
  have hx := B.exec
  have hb := B.bytes
  have hr := B.returns
  have ht : ∀ w ∈ TW, w.before _ s = true := fun w h => atoms_spec (ws := cw_M_inverse :: TW) B.pre w (List.mem_cons_of_mem _ h)
  have hown : s.vm.findClass R_M = some m.cls := findClass_of_methodNamed B.named
  have hlocks := B.notSynchronized
  have hK := hE.1
  have hS : va_S A s.heap s.heap [] := va_S.rf
  have hl := lv_entry ([.int (nI v)]) (n := 2) (Nat.le_of_ble_eq_true rfl)
  rw [lg_entry_eq]
  generalize (lg_sl ([.int (nI v)]) ++ List.replicate (2 - (lg_sl ([.int (nI v)])).length) Slot.unset).toArray = ls at hl ⊢
  have hl : lv_has ls 2 [(0, .int (nI v))] := hl
  refine lv_iconst (v := (nI 1)) hx hb d_M_inverse_0 (by decide) ?_
  refine lv_istore_n (lv' := [(1, .int (nI 1)), (0, .int (nI v))]) hx hb d_M_inverse_1 rfl hl (by decide) rfl (fun ls hl => ?_)
  have loop : ∀ (n k : Nat), k + n = 97 → ∀ ls : Array Slot, invF v n k = inv97 v → lv_has ls 2 [(1, .int (nI k)), (0, .int (nI v))] → W p l e (headSpec (cw_M_inverse :: TW) { frames := 1, cells := 0, slots := 0, locals := 26 }).room s m ([.int (nI v)] : List Value).toArray below meth c s.heap [] 0 0 (MQ below (qI G A (fun r w9 => ws = w9 ∧ r = nI (inv97 v))) ([.int (nI v)] : List Value).toArray s 0 0 A) (F0 m 2 ls []) := by
    intro n
    induction n with
    | zero =>
      intro k hk ls hi hl
      refine lv_iload_n hx hb d_M_inverse_2 rfl (lv_at hl 0 rfl) ?_
      refine lv_bipush (v := (nI 97)) hx hb d_M_inverse_3 (by decide) ?_
      refine x_ge hx hb k 97 rfl rfl (by omega) (by omega) (tgt := 26) d_M_inverse_5 (by decide) (fun c1 => ?_) (fun c1 => ?_)
      · refine lv_iconst (v := (nI 0)) hx hb d_M_inverse_26 (by decide) ?_
        exact x_iret hx hb hr hlocks hS hP hD (Nat.le_of_ble_eq_true rfl) (Nat.le_of_ble_eq_true rfl) d_M_inverse_27 (⟨rfl, by rw [← hi]; rfl⟩)
      · exact False.elim (by omega)
    | succ n ih =>
      intro k hk ls hi hl
      refine lv_iload_n hx hb d_M_inverse_2 rfl (lv_at hl 0 rfl) ?_
      refine lv_bipush (v := (nI 97)) hx hb d_M_inverse_3 (by decide) ?_
      refine x_ge hx hb k 97 rfl rfl (by omega) (by omega) (tgt := 26) d_M_inverse_5 (by decide) (fun c2 => ?_) (fun c2 => ?_)
      · exact False.elim (by omega)
      · refine lv_iload_n hx hb d_M_inverse_8 rfl (lv_at hl 0 rfl) ?_
        refine lv_iload_n hx hb d_M_inverse_9 rfl (lv_at hl 1 rfl) ?_
        have hb2 : k * v ≤ 96 * 96 := Nat.mul_le_mul (by omega) (by omega)
        refine lv_imul hx hb d_M_inverse_10 ?_
        refine x_top (nI (k * v)) (pk_mul _ _) ?_
        refine lv_bipush (v := (nI 97)) hx hb d_M_inverse_11 (by decide) ?_
        refine lv_irem hx hb d_M_inverse_13 (by decide) ?_
        refine x_top (nI ((k * v) % 97)) (pk_rem (by omega) (by omega) (by omega)) ?_
        refine lv_iconst (v := (nI 1)) hx hb d_M_inverse_14 (by decide) ?_
        refine x_ne hx hb ((k * v) % 97) 1 rfl rfl (by omega) (by omega) (tgt := 20) d_M_inverse_15 (by decide) (fun c3 => ?_) (fun c3 => ?_)
        · refine lv_iinc (v := nI (k + 1)) (lv' := [(1, .int (nI (k + 1))), (0, .int (nI v))]) hx hb d_M_inverse_20 hl (k := 0) rfl (n_inc _) (by decide) rfl (fun ls hl => ?_)
          refine lv_goto (tgt := 2) hx hb d_M_inverse_23 (by decide) ?_
          exact ih (k + 1) (by omega) ls (by rw [← hi]; show _ = (if v * k % 97 = 1 then k else invF v n (k + 1)); rw [if_neg (by rw [Nat.mul_comm]; exact c3)]) hl
        · refine lv_iload_n hx hb d_M_inverse_18 rfl (lv_at hl 0 rfl) ?_
          exact x_iret hx hb hr hlocks hS hP hD (Nat.le_of_ble_eq_true rfl) (Nat.le_of_ble_eq_true rfl) d_M_inverse_19 (⟨rfl, by rw [← hi]; show _ = nI (if v * k % 97 = 1 then k else invF v n (k + 1)); rw [if_pos (by rw [Nat.mul_comm]; exact c3)]⟩)
  exact loop 96 1 (by decide) ls rfl hl

set_option maxHeartbeats 4000000 in
set_option maxRecDepth 100000 in
theorem c_M_number (l : Launch) (G : xG) (A : Nat → Prop) (ws : va_W) (k r : Nat) (f : Nat → Nat) (h0 : ws[k]? = some (r, aI G 60 (rI f))) (x : Int32) : Met l y_M_number (cw_M_number :: TW) { frames := 2, cells := 0, slots := 0, locals := 52 } (va_Pc [.ref r, .int x] (x_P G A ws)) (qV G A (fun w9 => w9 = ws.set k (r, aI G 60 (rI (ovb 60 0 f (nmb (rm x))))))) 0 0 A := by
  refine Met.ofW (cc := b_M_number) (maxL := 3) (ret := none) (by decide) rfl ?_
  intro p e s m args below meth c s₁ B hml hv
  obtain ⟨rfl, hE, hA, hP, hD⟩ := hv
  have hx := B.exec
  have hb := B.bytes
  have hr := B.returns
  have ht : ∀ w ∈ TW, w.before _ s = true := fun w h => atoms_spec (ws := cw_M_number :: TW) B.pre w (List.mem_cons_of_mem _ h)
  have hown : s.vm.findClass R_M = some m.cls := findClass_of_methodNamed B.named
  have hlocks := B.notSynchronized
  have hK := hE.1
  have hS : va_S A s.heap s.heap [] := va_S.rf
  have hl := lv_entry ([.ref r, .int x]) (n := 3) (Nat.le_of_ble_eq_true rfl)
  rw [lg_entry_eq]
  generalize (lg_sl ([.ref r, .int x]) ++ List.replicate (3 - (lg_sl ([.ref r, .int x])).length) Slot.unset).toArray = ls at hl ⊢
  have hl : lv_has ls 3 [(0, .ref r), (1, .int x)] := hl
  refine lv_iconst (v := (nI 0)) hx hb d_M_number_0 (by decide) ?_
  refine lv_istore_n (lv' := [(2, .int (nI 0)), (0, .ref r), (1, .int x)]) hx hb d_M_number_1 rfl hl (by decide) rfl (fun ls hl => ?_)
  have z9 : ws = (ws.set k (r, aI G 60 (rI (ovb 0 0 f zr)))) := by rw [ovb_0]; exact (w_self h0).symm
  rw [z9] at hP hD
  have loop : ∀ (n i : Nat), i + n = 60 → ∀ (H : Heap) (locs : List Loc) (ls : Array Slot), (va_P (xD G) CL (ws.set k (r, aI G 60 (rI (ovb i 0 f zr)))) H) → (va_D A (ws.set k (r, aI G 60 (rI (ovb i 0 f zr))))) → (va_S A s.heap H locs) → lv_has ls 3 [(2, .int (nI i)), (0, .ref r), (1, .int x)] → W p l e (headSpec (cw_M_number :: TW) { frames := 2, cells := 0, slots := 0, locals := 52 }).room s m ([.ref r, .int x] : List Value).toArray below meth c H locs 0 0 (MQ below (qV G A (fun w9 => w9 = ws.set k (r, aI G 60 (rI (ovb 60 0 f (nmb (rm x))))))) ([.ref r, .int x] : List Value).toArray s 0 0 A) (F0 m 2 ls []) := by
    intro n
    induction n with
    | zero =>
      intro i hi H locs ls hP hD hS hl
      refine lv_iload_n hx hb d_M_number_2 rfl (lv_at hl 0 rfl) ?_
      refine lv_bipush (v := (nI 60)) hx hb d_M_number_3 (by decide) ?_
      refine x_ge hx hb i 60 rfl rfl (by omega) (by omega) (tgt := 18) d_M_number_5 (by decide) (fun c1 => ?_) (fun c1 => ?_)
      · have i0 : i = 60 := by omega
        rw [i0] at hP hD
        obtain ⟨w2, e_w2⟩ : ∃ zz : va_W, zz = (ws.set k (r, aI G 60 (rI (ovb 60 0 f zr)))) := ⟨_, rfl⟩
        rw [← e_w2] at hP hD
        have h3 : w2[k]? = some (r, aI G 60 (rI (ovb 60 0 f zr))) := by rw [e_w2]; exact w_eq h0
        refine lv_aload_n hx hb d_M_number_18 rfl (lv_at hl 1 rfl) ?_
        refine lv_iconst (v := (nI 0)) hx hb d_M_number_19 (by decide) ?_
        refine lv_iload_n hx hb d_M_number_20 rfl (lv_at hl 2 rfl) ?_
        refine x_calli (va_runS (As := [.int x]) (rest := [.int (nI 0), .ref r]) ⟨hx, hb, hml, hown, ht⟩ (c_M_rest l G A w2 x) (va_cwS 1 ht (TW_S k_ml_M_60 k_st_M_rest k_in_M k_code_M_rest) rfl rfl rfl hv_M_rest.2 ⟨Nat.le_of_ble_eq_true rfl, Nat.le_of_ble_eq_true rfl⟩) ⟨x_blind, x_pre hE hA hS hP hD⟩ rfl rfl hl.1 rfl (lv_room (Nat.le_of_ble_eq_true rfl)) d_M_number_21 ⟨Nat.le_of_ble_eq_true rfl, Nat.le_of_ble_eq_true rfl⟩) hS (fun r6 w5 H locs q4 hP hD hS => ?_)
        obtain ⟨rfl, rfl⟩ := q4
        refine x_iast hx hb hK hP hD hS h3 0 rfl (by omega) (by omega) d_M_number_24 (fun H locs hP hD hS => ?_)
        have hP : va_P (xD G) CL (w2.set k (r, aI G 60 (upd (rI (ovb 60 0 f zr)) 0 (nI (rm x))))) H := hP
        have hD : va_D A (w2.set k (r, aI G 60 (upd (rI (ovb 60 0 f zr)) 0 (nI (rm x))))) := hD
        obtain ⟨w7, e_w7⟩ : ∃ zz : va_W, zz = w2.set k (r, aI G 60 (upd (rI (ovb 60 0 f zr)) 0 (nI (rm x)))) := ⟨_, rfl⟩
        rw [← e_w7] at hP hD
        have h8 : w7[k]? = some (r, aI G 60 (upd (rI (ovb 60 0 f zr)) 0 (nI (rm x)))) := by rw [e_w7]; exact w_eq h3
        have e8 : va_up (ovb 60 0 f zr) 0 (rm x) = ovb 60 0 f (nmb (rm x)) := by funext j; unfold va_up ovb nmb zr; by_cases q : j = 0; subst q; rfl; rw [if_neg q, if_neg (show ¬ j - 0 = 0 by omega)]
        exact x_vret hx hb hr hlocks hS hP hD (Nat.le_of_ble_eq_true rfl) (Nat.le_of_ble_eq_true rfl) d_M_number_25 (by rw [e_w7, e_w2, List.set_set, up_rI, e8])
      · exact False.elim (by omega)
    | succ n ih =>
      intro i hi H locs ls hP hD hS hl
      refine lv_iload_n hx hb d_M_number_2 rfl (lv_at hl 0 rfl) ?_
      refine lv_bipush (v := (nI 60)) hx hb d_M_number_3 (by decide) ?_
      refine x_ge hx hb i 60 rfl rfl (by omega) (by omega) (tgt := 18) d_M_number_5 (by decide) (fun c9 => ?_) (fun c9 => ?_)
      · exact False.elim (by omega)
      · obtain ⟨w10, e_w10⟩ : ∃ zz : va_W, zz = (ws.set k (r, aI G 60 (rI (ovb i 0 f zr)))) := ⟨_, rfl⟩
        rw [← e_w10] at hP hD
        have h11 : w10[k]? = some (r, aI G 60 (rI (ovb i 0 f zr))) := by rw [e_w10]; exact w_eq h0
        refine lv_aload_n hx hb d_M_number_8 rfl (lv_at hl 1 rfl) ?_
        refine lv_iload_n hx hb d_M_number_9 rfl (lv_at hl 0 rfl) ?_
        refine lv_iconst (v := (nI 0)) hx hb d_M_number_10 (by decide) ?_
        refine x_iast hx hb hK hP hD hS h11 i rfl (by omega) (by omega) d_M_number_11 (fun H locs hP hD hS => ?_)
        have hP : va_P (xD G) CL (w10.set k (r, aI G 60 (upd (rI (ovb i 0 f zr)) i (nI 0)))) H := hP
        have hD : va_D A (w10.set k (r, aI G 60 (upd (rI (ovb i 0 f zr)) i (nI 0)))) := hD
        obtain ⟨w12, e_w12⟩ : ∃ zz : va_W, zz = w10.set k (r, aI G 60 (upd (rI (ovb i 0 f zr)) i (nI 0))) := ⟨_, rfl⟩
        rw [← e_w12] at hP hD
        have h13 : w12[k]? = some (r, aI G 60 (upd (rI (ovb i 0 f zr)) i (nI 0))) := by rw [e_w12]; exact w_eq h11
        have eN9 : w12 = (ws.set k (r, aI G 60 (rI (ovb (i + 1) 0 f zr)))) := by rw [e_w12, e_w10, List.set_set, up_rI]; exact congrArg (fun q9 => ws.set k (r, aI G 60 (rI q9))) ovb_s0
        refine lv_iinc (v := nI (i + 1)) (lv' := [(2, .int (nI (i + 1))), (0, .ref r), (1, .int x)]) hx hb d_M_number_12 hl (k := 0) rfl (n_inc _) (by decide) rfl (fun ls hl => ?_)
        refine lv_goto (tgt := 2) hx hb d_M_number_15 (by decide) ?_
        exact ih (i + 1) (by omega) H locs ls (by rw [← eN9]; exact hP) (by rw [← eN9]; exact hD) hS (lv_sub hl [0, 1, 2] rfl)
  exact loop 60 0 (by omega) s.heap [] ls hP hD hS (lv_sub hl [0, 1, 2] rfl)

set_option maxHeartbeats 4000000 in
set_option maxRecDepth 100000 in
theorem c_M_one (l : Launch) (G : xG) (A : Nat → Prop) (ws : va_W) (k r : Nat) (f : Nat → Nat) (h0 : ws[k]? = some (r, aI G 60 (rI f))) (v : Nat) (hv : v < 60) : Met l y_M_one (cw_M_one :: TW) { frames := 3, cells := 0, slots := 0, locals := 78 } (va_Pc [.ref r, .int (nI v)] (x_P G A ws)) (qV G A (fun w9 => w9 = ws.set k (r, aI G 60 (rI (ovb 60 0 f (unit v)))))) 0 0 A := by
  refine Met.ofW (cc := b_M_one) (maxL := 2) (ret := none) (by decide) rfl ?_
  intro p e s m args below meth c s₁ B hml hv
  obtain ⟨rfl, hE, hA, hP, hD⟩ := hv
  have hx := B.exec
  have hb := B.bytes
  have hr := B.returns
  have ht : ∀ w ∈ TW, w.before _ s = true := fun w h => atoms_spec (ws := cw_M_one :: TW) B.pre w (List.mem_cons_of_mem _ h)
  have hown : s.vm.findClass R_M = some m.cls := findClass_of_methodNamed B.named
  have hlocks := B.notSynchronized
  have hK := hE.1
  have hS : va_S A s.heap s.heap [] := va_S.rf
  have hl := lv_entry ([.ref r, .int (nI v)]) (n := 2) (Nat.le_of_ble_eq_true rfl)
  rw [lg_entry_eq]
  generalize (lg_sl ([.ref r, .int (nI v)]) ++ List.replicate (2 - (lg_sl ([.ref r, .int (nI v)])).length) Slot.unset).toArray = ls at hl ⊢
  have hl : lv_has ls 2 [(0, .ref r), (1, .int (nI v))] := hl
  refine lv_aload_n hx hb d_M_one_0 rfl (lv_at hl 0 rfl) ?_
  refine lv_iconst (v := (nI 0)) hx hb d_M_one_1 (by decide) ?_
  refine x_callv (va_runS (As := [.ref r, .int (nI 0)]) (rest := []) ⟨hx, hb, hml, hown, ht⟩ (c_M_number l G A ws k r f h0 (nI 0)) (va_cwS 2 ht (TW_S k_ml_M_64 k_st_M_number k_in_M k_code_M_number) rfl rfl rfl hv_M_number.2 ⟨Nat.le_of_ble_eq_true rfl, Nat.le_of_ble_eq_true rfl⟩) ⟨x_blind, x_pre hE hA hS hP hD⟩ rfl rfl hl.1 rfl (lv_room (Nat.le_of_ble_eq_true rfl)) d_M_one_2 ⟨Nat.le_of_ble_eq_true rfl, Nat.le_of_ble_eq_true rfl⟩) hS (fun w2 H locs q1 hP hD hS => ?_)
  have h1 : w2[k]? = some (r, aI G 60 (rI (ovb 60 0 f (nmb (rm (nI 0)))))) := by rw [q1]; exact w_eq h0
  refine lv_aload_n hx hb d_M_one_5 rfl (lv_at hl 0 rfl) ?_
  refine lv_iload_n hx hb d_M_one_6 rfl (lv_at hl 1 rfl) ?_
  refine lv_iconst (v := (nI 1)) hx hb d_M_one_7 (by decide) ?_
  refine x_iast hx hb hK hP hD hS h1 v rfl (by omega) (by omega) d_M_one_8 (fun H locs hP hD hS => ?_)
  have hP : va_P (xD G) CL (w2.set k (r, aI G 60 (upd (rI (ovb 60 0 f (nmb (rm (nI 0))))) v (nI 1)))) H := hP
  have hD : va_D A (w2.set k (r, aI G 60 (upd (rI (ovb 60 0 f (nmb (rm (nI 0))))) v (nI 1)))) := hD
  obtain ⟨w3, e_w3⟩ : ∃ zz : va_W, zz = w2.set k (r, aI G 60 (upd (rI (ovb 60 0 f (nmb (rm (nI 0))))) v (nI 1))) := ⟨_, rfl⟩
  rw [← e_w3] at hP hD
  have h4 : w3[k]? = some (r, aI G 60 (upd (rI (ovb 60 0 f (nmb (rm (nI 0))))) v (nI 1))) := by rw [e_w3]; exact w_eq h1
  have e8 : va_up (ovb 60 0 f (nmb (rm (nI 0)))) v 1 = ovb 60 0 f (unit v) := by funext j; unfold va_up ovb nmb unit; by_cases q : j = v; subst q; rw [if_pos rfl, if_pos (by omega), if_pos (by omega)]; rw [if_neg q, if_neg (show ¬ j - 0 = v by omega)]; congr 1; split; decide; rfl
  exact x_vret hx hb hr hlocks hS hP hD (Nat.le_of_ble_eq_true rfl) (Nat.le_of_ble_eq_true rfl) d_M_one_9 (by rw [e_w3, q1, List.set_set, up_rI, e8])

set_option maxHeartbeats 4000000 in
set_option maxRecDepth 100000 in
theorem c_M_fetch (l : Launch) (G : xG) (A : Nat → Prop) (ws : va_W) (a : MA) (st : MS) (hw : ws = mW G a st) (k r : Nat) (f : Nat → Nat) (h0 : ws[k]? = some (r, aI G 60 (rI f))) (hk : 8 ≤ k) (e9 : Nat) (he : e9 < 60) : Met l y_M_fetch (cw_M_fetch :: TW) { frames := 1, cells := 0, slots := 0, locals := 26 } (va_Pc [.ref a.m, .ref r, .int (nI e9)] (x_P G A ws)) (qV G A (fun w9 => w9 = ws.set k (r, aI G 60 (rI (ovb 60 0 f (fun j => st.S (60 * e9 + j))))))) 0 0 A := by
  refine Met.ofW (cc := b_M_fetch) (maxL := 4) (ret := none) (by decide) rfl ?_
  intro p e s m args below meth c s₁ B hml hv
  obtain ⟨rfl, hE, hA, hP, hD⟩ := hv
  have hx := B.exec
  have hb := B.bytes
  have hr := B.returns
  have ht : ∀ w ∈ TW, w.before _ s = true := fun w h => atoms_spec (ws := cw_M_fetch :: TW) B.pre w (List.mem_cons_of_mem _ h)
  have hown : s.vm.findClass R_M = some m.cls := findClass_of_methodNamed B.named
  have hlocks := B.notSynchronized
  have hK := hE.1
  have hS : va_S A s.heap s.heap [] := va_S.rf
  have hl := lv_entry ([.ref a.m, .ref r, .int (nI e9)]) (n := 4) (Nat.le_of_ble_eq_true rfl)
  rw [lg_entry_eq]
  generalize (lg_sl ([.ref a.m, .ref r, .int (nI e9)]) ++ List.replicate (4 - (lg_sl ([.ref a.m, .ref r, .int (nI e9)])).length) Slot.unset).toArray = ls at hl ⊢
  have hl : lv_has ls 4 [(0, .ref a.m), (1, .ref r), (2, .int (nI e9))] := hl
  have h1 : ws[0]? = some (a.m, .inr (5, [.int (nI st.th), .ref a.aS, .ref a.aK, .ref a.aI, .int (nI st.ex), .ref a.aH, .ref a.aF, .ref a.aG, .int (nI st.va), .ref a.aR, .int (nI st.co), .ref a.aL, .ref a.aT, .ref a.aO, .ref a.aB, .ref a.aW, .int (nI st.sv), .int (nI st.kn), .int (nI st.kc)])) := by rw [hw]; rfl
  have h2 : ws[1]? = some (a.aS, aI G 3600 (rI st.S)) := by rw [hw]; rfl
  refine lv_iconst (v := (nI 0)) hx hb d_M_fetch_0 (by decide) ?_
  refine lv_istore_n (lv' := [(3, .int (nI 0)), (0, .ref a.m), (1, .ref r), (2, .int (nI e9))]) hx hb d_M_fetch_1 rfl hl (by decide) rfl (fun ls hl => ?_)
  have z9 : ws = (ws.set k (r, aI G 60 (rI (ovb 0 0 f (fun j => st.S (60 * e9 + j)))))) := by rw [ovb_0]; exact (w_self h0).symm
  rw [z9] at hP hD
  have loop : ∀ (n i : Nat), i + n = 60 → ∀ (H : Heap) (locs : List Loc) (ls : Array Slot), (va_P (xD G) CL (ws.set k (r, aI G 60 (rI (ovb i 0 f (fun j => st.S (60 * e9 + j)))))) H) → (va_D A (ws.set k (r, aI G 60 (rI (ovb i 0 f (fun j => st.S (60 * e9 + j))))))) → (va_S A s.heap H locs) → lv_has ls 4 [(3, .int (nI i)), (0, .ref a.m), (1, .ref r), (2, .int (nI e9))] → W p l e (headSpec (cw_M_fetch :: TW) { frames := 1, cells := 0, slots := 0, locals := 26 }).room s m ([.ref a.m, .ref r, .int (nI e9)] : List Value).toArray below meth c H locs 0 0 (MQ below (qV G A (fun w9 => w9 = ws.set k (r, aI G 60 (rI (ovb 60 0 f (fun j => st.S (60 * e9 + j))))))) ([.ref a.m, .ref r, .int (nI e9)] : List Value).toArray s 0 0 A) (F0 m 2 ls []) := by
    intro n
    induction n with
    | zero =>
      intro i hi H locs ls hP hD hS hl
      refine lv_iload_n hx hb d_M_fetch_2 rfl (lv_at hl 0 rfl) ?_
      refine lv_bipush (v := (nI 60)) hx hb d_M_fetch_3 (by decide) ?_
      refine x_ge hx hb i 60 rfl rfl (by omega) (by omega) (tgt := 28) d_M_fetch_5 (by decide) (fun c3 => ?_) (fun c3 => ?_)
      · have i0 : i = 60 := by omega
        rw [i0] at hP hD
        obtain ⟨w4, e_w4⟩ : ∃ zz : va_W, zz = (ws.set k (r, aI G 60 (rI (ovb 60 0 f (fun j => st.S (60 * e9 + j)))))) := ⟨_, rfl⟩
        rw [← e_w4] at hP hD
        have h5 : w4[0]? = some (a.m, .inr (5, [.int (nI st.th), .ref a.aS, .ref a.aK, .ref a.aI, .int (nI st.ex), .ref a.aH, .ref a.aF, .ref a.aG, .int (nI st.va), .ref a.aR, .int (nI st.co), .ref a.aL, .ref a.aT, .ref a.aO, .ref a.aB, .ref a.aW, .int (nI st.sv), .int (nI st.kn), .int (nI st.kc)])) := by rw [e_w4]; exact w_ne (by omega) h1
        have h6 : w4[1]? = some (a.aS, aI G 3600 (rI st.S)) := by rw [e_w4]; exact w_ne (by omega) h2
        have h7 : w4[k]? = some (r, aI G 60 (rI (ovb 60 0 f (fun j => st.S (60 * e9 + j))))) := by rw [e_w4]; exact w_eq h0
        exact x_vret hx hb hr hlocks hS hP hD (Nat.le_of_ble_eq_true rfl) (Nat.le_of_ble_eq_true rfl) d_M_fetch_28 (e_w4)
      · exact False.elim (by omega)
    | succ n ih =>
      intro i hi H locs ls hP hD hS hl
      refine lv_iload_n hx hb d_M_fetch_2 rfl (lv_at hl 0 rfl) ?_
      refine lv_bipush (v := (nI 60)) hx hb d_M_fetch_3 (by decide) ?_
      refine x_ge hx hb i 60 rfl rfl (by omega) (by omega) (tgt := 28) d_M_fetch_5 (by decide) (fun c8 => ?_) (fun c8 => ?_)
      · exact False.elim (by omega)
      · obtain ⟨w9, e_w9⟩ : ∃ zz : va_W, zz = (ws.set k (r, aI G 60 (rI (ovb i 0 f (fun j => st.S (60 * e9 + j)))))) := ⟨_, rfl⟩
        rw [← e_w9] at hP hD
        have h10 : w9[0]? = some (a.m, .inr (5, [.int (nI st.th), .ref a.aS, .ref a.aK, .ref a.aI, .int (nI st.ex), .ref a.aH, .ref a.aF, .ref a.aG, .int (nI st.va), .ref a.aR, .int (nI st.co), .ref a.aL, .ref a.aT, .ref a.aO, .ref a.aB, .ref a.aW, .int (nI st.sv), .int (nI st.kn), .int (nI st.kc)])) := by rw [e_w9]; exact w_ne (by omega) h1
        have h11 : w9[1]? = some (a.aS, aI G 3600 (rI st.S)) := by rw [e_w9]; exact w_ne (by omega) h2
        have h12 : w9[k]? = some (r, aI G 60 (rI (ovb i 0 f (fun j => st.S (60 * e9 + j))))) := by rw [e_w9]; exact w_eq h0
        refine lv_aload_n hx hb d_M_fetch_8 rfl (lv_at hl 2 rfl) ?_
        refine lv_iload_n hx hb d_M_fetch_9 rfl (lv_at hl 0 rfl) ?_
        refine lv_aload_n hx hb d_M_fetch_10 rfl (lv_at hl 1 rfl) ?_
        refine va_get (D := xD G) (ci := 5) (C := R_M) (T := F_M) (N := 19) hx hb ht in_M hown hK hP 0 h10 rfl 1 (by decide) (ht _ k_fl_M_7) (fun _ h9 => h9) rfl d_M_fetch_11 ?_
        refine lv_bipush (v := (nI 60)) hx hb d_M_fetch_14 (by decide) ?_
        refine lv_iload_n hx hb d_M_fetch_16 rfl (lv_at hl 3 rfl) ?_
        refine lv_imul hx hb d_M_fetch_17 ?_
        refine x_top (nI (60 * e9)) (pk_mul _ _) ?_
        refine lv_iload_n hx hb d_M_fetch_18 rfl (lv_at hl 0 rfl) ?_
        refine lv_iadd hx hb d_M_fetch_19 ?_
        refine x_top (nI ((60 * e9) + i)) (nI_add _ _) ?_
        refine x_iald hx hb hK hP h11 ((60 * e9) + i) rfl (by omega) (by omega) d_M_fetch_20 ?_
        refine x_top (nI (st.S ((60 * e9) + i))) (rfl) ?_
        refine x_iast hx hb hK hP hD hS h12 i rfl (by omega) (by omega) d_M_fetch_21 (fun H locs hP hD hS => ?_)
        have hP : va_P (xD G) CL (w9.set k (r, aI G 60 (upd (rI (ovb i 0 f (fun j => st.S (60 * e9 + j)))) i (nI (st.S ((60 * e9) + i)))))) H := hP
        have hD : va_D A (w9.set k (r, aI G 60 (upd (rI (ovb i 0 f (fun j => st.S (60 * e9 + j)))) i (nI (st.S ((60 * e9) + i)))))) := hD
        obtain ⟨w13, e_w13⟩ : ∃ zz : va_W, zz = w9.set k (r, aI G 60 (upd (rI (ovb i 0 f (fun j => st.S (60 * e9 + j)))) i (nI (st.S ((60 * e9) + i))))) := ⟨_, rfl⟩
        rw [← e_w13] at hP hD
        have h14 : w13[0]? = some (a.m, .inr (5, [.int (nI st.th), .ref a.aS, .ref a.aK, .ref a.aI, .int (nI st.ex), .ref a.aH, .ref a.aF, .ref a.aG, .int (nI st.va), .ref a.aR, .int (nI st.co), .ref a.aL, .ref a.aT, .ref a.aO, .ref a.aB, .ref a.aW, .int (nI st.sv), .int (nI st.kn), .int (nI st.kc)])) := by rw [e_w13]; exact w_ne (w_dif h12 h10 (by simp)) h10
        have h15 : w13[1]? = some (a.aS, aI G 3600 (rI st.S)) := by rw [e_w13]; exact w_ne (w_dif h12 h11 (by simp)) h11
        have h16 : w13[k]? = some (r, aI G 60 (upd (rI (ovb i 0 f (fun j => st.S (60 * e9 + j)))) i (nI (st.S ((60 * e9) + i))))) := by rw [e_w13]; exact w_eq h12
        have eN9 : w13 = (ws.set k (r, aI G 60 (rI (ovb (i + 1) 0 f (fun j => st.S (60 * e9 + j)))))) := by rw [e_w13, e_w9, List.set_set, up_rI]; exact congrArg (fun q9 => ws.set k (r, aI G 60 (rI q9))) ovb_s0
        refine lv_iinc (v := nI (i + 1)) (lv' := [(3, .int (nI (i + 1))), (0, .ref a.m), (1, .ref r), (2, .int (nI e9))]) hx hb d_M_fetch_22 hl (k := 0) rfl (n_inc _) (by decide) rfl (fun ls hl => ?_)
        refine lv_goto (tgt := 2) hx hb d_M_fetch_25 (by decide) ?_
        exact ih (i + 1) (by omega) H locs ls (by rw [← eN9]; exact hP) (by rw [← eN9]; exact hD) hS (lv_sub hl [0, 1, 2, 3] rfl)
  exact loop 60 0 (by omega) s.heap [] ls hP hD hS (lv_sub hl [0, 1, 2, 3] rfl)

set_option maxHeartbeats 4000000 in
set_option maxRecDepth 100000 in
theorem c_M_add (l : Launch) (G : xG) (A : Nat → Prop) (ws : va_W) (a : MA) (st : MS) (hw : ws = mW G a st) (k r : Nat) (f : Nat → Nat) (h0 : ws[k]? = some (r, aI G 60 (rI f))) (hk : 8 ≤ k) (e9 t : Nat) (he : e9 < 60) (ht9 : t ≤ 96) (hf : ∀ j, j < 60 → f j < 97) (hs9 : ∀ j, j < 60 → st.S (60 * e9 + j) < 97) : Met l y_M_add (cw_M_add :: TW) { frames := 2, cells := 0, slots := 0, locals := 52 } (va_Pc [.ref a.m, .ref r, .int (nI e9), .int (nI t)] (x_P G A ws)) (qV G A (fun w9 => w9 = ws.set k (r, aI G 60 (rI (ovb 60 0 f (fun j => (f j + t * st.S (60 * e9 + j)) % 97)))))) 0 0 A := by
  refine Met.ofW (cc := b_M_add) (maxL := 5) (ret := none) (by decide) rfl ?_
  intro p e s m args below meth c s₁ B hml hv
  obtain ⟨rfl, hE, hA, hP, hD⟩ := hv
  have hx := B.exec
  have hb := B.bytes
  have hr := B.returns
  have ht : ∀ w ∈ TW, w.before _ s = true := fun w h => atoms_spec (ws := cw_M_add :: TW) B.pre w (List.mem_cons_of_mem _ h)
  have hown : s.vm.findClass R_M = some m.cls := findClass_of_methodNamed B.named
  have hlocks := B.notSynchronized
  have hK := hE.1
  have hS : va_S A s.heap s.heap [] := va_S.rf
  have hl := lv_entry ([.ref a.m, .ref r, .int (nI e9), .int (nI t)]) (n := 5) (Nat.le_of_ble_eq_true rfl)
  rw [lg_entry_eq]
  generalize (lg_sl ([.ref a.m, .ref r, .int (nI e9), .int (nI t)]) ++ List.replicate (5 - (lg_sl ([.ref a.m, .ref r, .int (nI e9), .int (nI t)])).length) Slot.unset).toArray = ls at hl ⊢
  have hl : lv_has ls 5 [(0, .ref a.m), (1, .ref r), (2, .int (nI e9)), (3, .int (nI t))] := hl
  have h1 : ws[0]? = some (a.m, .inr (5, [.int (nI st.th), .ref a.aS, .ref a.aK, .ref a.aI, .int (nI st.ex), .ref a.aH, .ref a.aF, .ref a.aG, .int (nI st.va), .ref a.aR, .int (nI st.co), .ref a.aL, .ref a.aT, .ref a.aO, .ref a.aB, .ref a.aW, .int (nI st.sv), .int (nI st.kn), .int (nI st.kc)])) := by rw [hw]; rfl
  have h2 : ws[1]? = some (a.aS, aI G 3600 (rI st.S)) := by rw [hw]; rfl
  refine lv_iconst (v := (nI 0)) hx hb d_M_add_0 (by decide) ?_
  refine lv_istore (lv' := [(4, .int (nI 0)), (0, .ref a.m), (1, .ref r), (2, .int (nI e9)), (3, .int (nI t))]) hx hb d_M_add_1 hl (by decide) rfl (fun ls hl => ?_)
  have z9 : ws = (ws.set k (r, aI G 60 (rI (ovb 0 0 f (fun j => (f j + t * st.S (60 * e9 + j)) % 97))))) := by rw [ovb_0]; exact (w_self h0).symm
  rw [z9] at hP hD
  have loop : ∀ (n i : Nat), i + n = 60 → ∀ (H : Heap) (locs : List Loc) (ls : Array Slot), (va_P (xD G) CL (ws.set k (r, aI G 60 (rI (ovb i 0 f (fun j => (f j + t * st.S (60 * e9 + j)) % 97))))) H) → (va_D A (ws.set k (r, aI G 60 (rI (ovb i 0 f (fun j => (f j + t * st.S (60 * e9 + j)) % 97)))))) → (va_S A s.heap H locs) → lv_has ls 5 [(4, .int (nI i)), (0, .ref a.m), (1, .ref r), (2, .int (nI e9)), (3, .int (nI t))] → W p l e (headSpec (cw_M_add :: TW) { frames := 2, cells := 0, slots := 0, locals := 52 }).room s m ([.ref a.m, .ref r, .int (nI e9), .int (nI t)] : List Value).toArray below meth c H locs 0 0 (MQ below (qV G A (fun w9 => w9 = ws.set k (r, aI G 60 (rI (ovb 60 0 f (fun j => (f j + t * st.S (60 * e9 + j)) % 97)))))) ([.ref a.m, .ref r, .int (nI e9), .int (nI t)] : List Value).toArray s 0 0 A) (F0 m 3 ls []) := by
    intro n
    induction n with
    | zero =>
      intro i hi H locs ls hP hD hS hl
      refine lv_iload hx hb d_M_add_3 (lv_at hl 0 rfl) ?_
      refine lv_bipush (v := (nI 60)) hx hb d_M_add_5 (by decide) ?_
      refine x_ge hx hb i 60 rfl rfl (by omega) (by omega) (tgt := 42) d_M_add_7 (by decide) (fun c3 => ?_) (fun c3 => ?_)
      · have i0 : i = 60 := by omega
        rw [i0] at hP hD
        obtain ⟨w4, e_w4⟩ : ∃ zz : va_W, zz = (ws.set k (r, aI G 60 (rI (ovb 60 0 f (fun j => (f j + t * st.S (60 * e9 + j)) % 97))))) := ⟨_, rfl⟩
        rw [← e_w4] at hP hD
        have h5 : w4[0]? = some (a.m, .inr (5, [.int (nI st.th), .ref a.aS, .ref a.aK, .ref a.aI, .int (nI st.ex), .ref a.aH, .ref a.aF, .ref a.aG, .int (nI st.va), .ref a.aR, .int (nI st.co), .ref a.aL, .ref a.aT, .ref a.aO, .ref a.aB, .ref a.aW, .int (nI st.sv), .int (nI st.kn), .int (nI st.kc)])) := by rw [e_w4]; exact w_ne (by omega) h1
        have h6 : w4[1]? = some (a.aS, aI G 3600 (rI st.S)) := by rw [e_w4]; exact w_ne (by omega) h2
        have h7 : w4[k]? = some (r, aI G 60 (rI (ovb 60 0 f (fun j => (f j + t * st.S (60 * e9 + j)) % 97)))) := by rw [e_w4]; exact w_eq h0
        exact x_vret hx hb hr hlocks hS hP hD (Nat.le_of_ble_eq_true rfl) (Nat.le_of_ble_eq_true rfl) d_M_add_42 (e_w4)
      · exact False.elim (by omega)
    | succ n ih =>
      intro i hi H locs ls hP hD hS hl
      refine lv_iload hx hb d_M_add_3 (lv_at hl 0 rfl) ?_
      refine lv_bipush (v := (nI 60)) hx hb d_M_add_5 (by decide) ?_
      refine x_ge hx hb i 60 rfl rfl (by omega) (by omega) (tgt := 42) d_M_add_7 (by decide) (fun c8 => ?_) (fun c8 => ?_)
      · exact False.elim (by omega)
      · obtain ⟨w9, e_w9⟩ : ∃ zz : va_W, zz = (ws.set k (r, aI G 60 (rI (ovb i 0 f (fun j => (f j + t * st.S (60 * e9 + j)) % 97))))) := ⟨_, rfl⟩
        rw [← e_w9] at hP hD
        have h10 : w9[0]? = some (a.m, .inr (5, [.int (nI st.th), .ref a.aS, .ref a.aK, .ref a.aI, .int (nI st.ex), .ref a.aH, .ref a.aF, .ref a.aG, .int (nI st.va), .ref a.aR, .int (nI st.co), .ref a.aL, .ref a.aT, .ref a.aO, .ref a.aB, .ref a.aW, .int (nI st.sv), .int (nI st.kn), .int (nI st.kc)])) := by rw [e_w9]; exact w_ne (by omega) h1
        have h11 : w9[1]? = some (a.aS, aI G 3600 (rI st.S)) := by rw [e_w9]; exact w_ne (by omega) h2
        have h12 : w9[k]? = some (r, aI G 60 (rI (ovb i 0 f (fun j => (f j + t * st.S (60 * e9 + j)) % 97)))) := by rw [e_w9]; exact w_eq h0
        refine lv_aload_n hx hb d_M_add_10 rfl (lv_at hl 2 rfl) ?_
        refine lv_iload hx hb d_M_add_11 (lv_at hl 0 rfl) ?_
        refine lv_aload_n hx hb d_M_add_13 rfl (lv_at hl 2 rfl) ?_
        refine lv_iload hx hb d_M_add_14 (lv_at hl 0 rfl) ?_
        refine x_iald hx hb hK hP h12 i rfl (by omega) (by omega) d_M_add_16 ?_
        refine x_top (nI (f i)) (by show nI (ovb i 0 f (fun j => (f j + t * st.S (60 * e9 + j)) % 97) i) = _; rw [ovb_out (by omega)]) ?_
        refine lv_iload_n hx hb d_M_add_17 rfl (lv_at hl 4 rfl) ?_
        refine lv_aload_n hx hb d_M_add_18 rfl (lv_at hl 1 rfl) ?_
        refine va_get (D := xD G) (ci := 5) (C := R_M) (T := F_M) (N := 19) hx hb ht in_M hown hK hP 0 h10 rfl 1 (by decide) (ht _ k_fl_M_7) (fun _ h9 => h9) rfl d_M_add_19 ?_
        refine lv_bipush (v := (nI 60)) hx hb d_M_add_22 (by decide) ?_
        refine lv_iload_n hx hb d_M_add_24 rfl (lv_at hl 3 rfl) ?_
        refine lv_imul hx hb d_M_add_25 ?_
        refine x_top (nI (60 * e9)) (pk_mul _ _) ?_
        refine lv_iload hx hb d_M_add_26 (lv_at hl 0 rfl) ?_
        refine lv_iadd hx hb d_M_add_28 ?_
        refine x_top (nI ((60 * e9) + i)) (nI_add _ _) ?_
        refine x_iald hx hb hK hP h11 ((60 * e9) + i) rfl (by omega) (by omega) d_M_add_29 ?_
        refine x_top (nI (st.S ((60 * e9) + i))) (rfl) ?_
        refine lv_imul hx hb d_M_add_30 ?_
        refine x_top (nI (t * (st.S ((60 * e9) + i)))) (pk_mul _ _) ?_
        refine lv_iadd hx hb d_M_add_31 ?_
        refine x_top (nI ((f i) + (t * (st.S ((60 * e9) + i))))) (nI_add _ _) ?_
        have b1 := hf i (by omega)
        have b2 := hs9 i (by omega)
        have b3 : t * st.S (60 * e9 + i) ≤ 96 * 96 := Nat.mul_le_mul ht9 (by omega)
        refine x_calli (va_runS (As := [.int (nI ((f i) + (t * (st.S ((60 * e9) + i)))))]) (rest := [.int (nI i), .ref r]) ⟨hx, hb, hml, hown, ht⟩ (c_M_rest l G A w9 _) (va_cwS 1 ht (TW_S k_ml_M_60 k_st_M_rest k_in_M k_code_M_rest) rfl rfl rfl hv_M_rest.2 ⟨Nat.le_of_ble_eq_true rfl, Nat.le_of_ble_eq_true rfl⟩) ⟨x_blind, x_pre hE hA hS hP hD⟩ rfl rfl hl.1 rfl (lv_room (Nat.le_of_ble_eq_true rfl)) d_M_add_32 ⟨Nat.le_of_ble_eq_true rfl, Nat.le_of_ble_eq_true rfl⟩) hS (fun r15 w14 H locs q13 hP hD hS => ?_)
        obtain ⟨rfl, rfl⟩ := q13
        refine x_top (nI ((f i + t * st.S (60 * e9 + i)) % 97)) (by rw [rm_nat (by omega)]) ?_
        refine x_iast hx hb hK hP hD hS h12 i rfl (by omega) (by omega) d_M_add_35 (fun H locs hP hD hS => ?_)
        have hP : va_P (xD G) CL (w9.set k (r, aI G 60 (upd (rI (ovb i 0 f (fun j => (f j + t * st.S (60 * e9 + j)) % 97))) i (nI ((f i + t * st.S (60 * e9 + i)) % 97))))) H := hP
        have hD : va_D A (w9.set k (r, aI G 60 (upd (rI (ovb i 0 f (fun j => (f j + t * st.S (60 * e9 + j)) % 97))) i (nI ((f i + t * st.S (60 * e9 + i)) % 97))))) := hD
        obtain ⟨w16, e_w16⟩ : ∃ zz : va_W, zz = w9.set k (r, aI G 60 (upd (rI (ovb i 0 f (fun j => (f j + t * st.S (60 * e9 + j)) % 97))) i (nI ((f i + t * st.S (60 * e9 + i)) % 97)))) := ⟨_, rfl⟩
        rw [← e_w16] at hP hD
        have h17 : w16[0]? = some (a.m, .inr (5, [.int (nI st.th), .ref a.aS, .ref a.aK, .ref a.aI, .int (nI st.ex), .ref a.aH, .ref a.aF, .ref a.aG, .int (nI st.va), .ref a.aR, .int (nI st.co), .ref a.aL, .ref a.aT, .ref a.aO, .ref a.aB, .ref a.aW, .int (nI st.sv), .int (nI st.kn), .int (nI st.kc)])) := by rw [e_w16]; exact w_ne (w_dif h12 h10 (by simp)) h10
        have h18 : w16[1]? = some (a.aS, aI G 3600 (rI st.S)) := by rw [e_w16]; exact w_ne (w_dif h12 h11 (by simp)) h11
        have h19 : w16[k]? = some (r, aI G 60 (upd (rI (ovb i 0 f (fun j => (f j + t * st.S (60 * e9 + j)) % 97))) i (nI ((f i + t * st.S (60 * e9 + i)) % 97)))) := by rw [e_w16]; exact w_eq h12
        have eN9 : w16 = (ws.set k (r, aI G 60 (rI (ovb (i + 1) 0 f (fun j => (f j + t * st.S (60 * e9 + j)) % 97))))) := by rw [e_w16, e_w9, List.set_set, up_rI]; exact congrArg (fun q9 => ws.set k (r, aI G 60 (rI q9))) ovb_s0
        refine lv_iinc (v := nI (i + 1)) (lv' := [(4, .int (nI (i + 1))), (0, .ref a.m), (1, .ref r), (2, .int (nI e9)), (3, .int (nI t))]) hx hb d_M_add_36 hl (k := 0) rfl (n_inc _) (by decide) rfl (fun ls hl => ?_)
        refine lv_goto (tgt := 3) hx hb d_M_add_39 (by decide) ?_
        exact ih (i + 1) (by omega) H locs ls (by rw [← eN9]; exact hP) (by rw [← eN9]; exact hD) hS (lv_sub hl [0, 1, 2, 3, 4] rfl)
  exact loop 60 0 (by omega) s.heap [] ls hP hD hS (lv_sub hl [0, 1, 2, 3, 4] rfl)

set_option maxHeartbeats 4000000 in
set_option maxRecDepth 100000 in
theorem c_M_constant (l : Launch) (G : xG) (A : Nat → Prop) (ws : va_W) (k r : Nat) (f : Nat → Nat) (h0 : ws[k]? = some (r, aI G 60 (rI f))) (hf : ∀ j, j < 60 → f j < 97) : Met l y_M_constant (cw_M_constant :: TW) { frames := 1, cells := 0, slots := 0, locals := 26 } (va_Pc [.ref r] (x_P G A ws)) (qI G A (fun q w9 => ws = w9 ∧ ((q = nI 1 ∧ isK f) ∨ (q = nI 0 ∧ ¬ isK f)))) 0 0 A := by
  refine Met.ofW (cc := b_M_constant) (maxL := 2) (ret := (some .boolean)) (by decide) rfl ?_
  intro p e s m args below meth c s₁ B hml hv
  obtain ⟨rfl, hE, hA, hP, hD⟩ := hv
  have hx := B.exec
  have hb := B.bytes
  have hr := B.returns
  have ht : ∀ w ∈ TW, w.before _ s = true := fun w h => atoms_spec (ws := cw_M_constant :: TW) B.pre w (List.mem_cons_of_mem _ h)
  have hown : s.vm.findClass R_M = some m.cls := findClass_of_methodNamed B.named
  have hlocks := B.notSynchronized
  have hK := hE.1
  have hS : va_S A s.heap s.heap [] := va_S.rf
  have hl := lv_entry ([.ref r]) (n := 2) (Nat.le_of_ble_eq_true rfl)
  rw [lg_entry_eq]
  generalize (lg_sl ([.ref r]) ++ List.replicate (2 - (lg_sl ([.ref r])).length) Slot.unset).toArray = ls at hl ⊢
  have hl : lv_has ls 2 [(0, .ref r)] := hl
  refine lv_iconst (v := (nI 1)) hx hb d_M_constant_0 (by decide) ?_
  refine lv_istore_n (lv' := [(1, .int (nI 1)), (0, .ref r)]) hx hb d_M_constant_1 rfl hl (by decide) rfl (fun ls hl => ?_)
  have loop : ∀ (n i : Nat), i + n = 60 → 0 < i → ∀ (ls : Array Slot), (∀ j, 0 < j → j < i → f j = 0) → lv_has ls 2 [(1, .int (nI i)), (0, .ref r)] → W p l e (headSpec (cw_M_constant :: TW) { frames := 1, cells := 0, slots := 0, locals := 26 }).room s m ([.ref r] : List Value).toArray below meth c s.heap [] 0 0 (MQ below (qI G A (fun q w9 => ws = w9 ∧ ((q = nI 1 ∧ isK f) ∨ (q = nI 0 ∧ ¬ isK f)))) ([.ref r] : List Value).toArray s 0 0 A) (F0 m 2 ls []) := by
    intro n
    induction n with
    | zero =>
      intro i hi hi0 ls hal hl
      refine lv_iload_n hx hb d_M_constant_2 rfl (lv_at hl 0 rfl) ?_
      refine lv_bipush (v := (nI 60)) hx hb d_M_constant_3 (by decide) ?_
      refine x_ge hx hb i 60 rfl rfl (by omega) (by omega) (tgt := 22) d_M_constant_5 (by decide) (fun c1 => ?_) (fun c1 => ?_)
      · refine lv_iconst (v := (nI 1)) hx hb d_M_constant_22 (by decide) ?_
        exact x_zret hx hb hr hlocks hS hP hD (Nat.le_of_ble_eq_true rfl) (Nat.le_of_ble_eq_true rfl) d_M_constant_23 rfl (⟨rfl, Or.inl ⟨rfl, fun j j1 j2 => hal j j1 (by omega)⟩⟩)
      · exact False.elim (by omega)
    | succ n ih =>
      intro i hi hi0 ls hal hl
      refine lv_iload_n hx hb d_M_constant_2 rfl (lv_at hl 0 rfl) ?_
      refine lv_bipush (v := (nI 60)) hx hb d_M_constant_3 (by decide) ?_
      refine x_ge hx hb i 60 rfl rfl (by omega) (by omega) (tgt := 22) d_M_constant_5 (by decide) (fun c2 => ?_) (fun c2 => ?_)
      · exact False.elim (by omega)
      · refine lv_aload_n hx hb d_M_constant_8 rfl (lv_at hl 1 rfl) ?_
        refine lv_iload_n hx hb d_M_constant_9 rfl (lv_at hl 0 rfl) ?_
        refine x_iald hx hb hK hP h0 i rfl (by omega) (by omega) d_M_constant_10 ?_
        refine x_top (nI (f i)) (rfl) ?_
        have b1 := hf i (by omega)
        refine x_if_eq hx hb (f i) rfl (by omega) (tgt := 16) d_M_constant_11 (by decide) (fun c3 => ?_) (fun c3 => ?_)
        · refine lv_iinc (v := nI (i + 1)) (lv' := [(1, .int (nI (i + 1))), (0, .ref r)]) hx hb d_M_constant_16 hl (k := 0) rfl (n_inc _) (by decide) rfl (fun ls hl => ?_)
          refine lv_goto (tgt := 2) hx hb d_M_constant_19 (by decide) ?_
          exact ih (i + 1) (by omega) (by omega) ls (fun j j1 j2 => by by_cases q : j = i; subst q; exact c3; exact hal j j1 (by omega)) (lv_sub hl [0, 1] rfl)
        · refine lv_iconst (v := (nI 0)) hx hb d_M_constant_14 (by decide) ?_
          exact x_zret hx hb hr hlocks hS hP hD (Nat.le_of_ble_eq_true rfl) (Nat.le_of_ble_eq_true rfl) d_M_constant_15 rfl (⟨rfl, Or.inr ⟨rfl, fun q => c3 (q i (by omega) (by omega))⟩⟩)
  exact loop 59 1 (by decide) (by decide) ls (fun j j1 j2 => by omega) hl

set_option maxHeartbeats 4000000 in
set_option maxRecDepth 100000 in
theorem c_M_isConst (l : Launch) (G : xG) (A : Nat → Prop) (ws : va_W) (a : MA) (st : MS) (hw : ws = mW G a st) (e9 : Nat) (he : e9 < 60) (hf : ∀ j, j < 60 → st.S (60 * e9 + j) < 97) : Met l y_M_isConstant (cw_M_isConstant :: TW) { frames := 1, cells := 0, slots := 0, locals := 26 } (va_Pc [.ref a.m, .int (nI e9)] (x_P G A ws)) (qI G A (fun q w9 => ws = w9 ∧ ((q = nI 1 ∧ isK (fun j => st.S (60 * e9 + j))) ∨ (q = nI 0 ∧ ¬ isK (fun j => st.S (60 * e9 + j)))))) 0 0 A := by
  refine Met.ofW (cc := b_M_isConstant) (maxL := 3) (ret := (some .boolean)) (by decide) rfl ?_
  intro p e s m args below meth c s₁ B hml hv
  obtain ⟨rfl, hE, hA, hP, hD⟩ := hv
  have hx := B.exec
  have hb := B.bytes
  have hr := B.returns
  have ht : ∀ w ∈ TW, w.before _ s = true := fun w h => atoms_spec (ws := cw_M_isConstant :: TW) B.pre w (List.mem_cons_of_mem _ h)
  have hown : s.vm.findClass R_M = some m.cls := findClass_of_methodNamed B.named
  have hlocks := B.notSynchronized
  have hK := hE.1
  have hS : va_S A s.heap s.heap [] := va_S.rf
  have hl := lv_entry ([.ref a.m, .int (nI e9)]) (n := 3) (Nat.le_of_ble_eq_true rfl)
  rw [lg_entry_eq]
  generalize (lg_sl ([.ref a.m, .int (nI e9)]) ++ List.replicate (3 - (lg_sl ([.ref a.m, .int (nI e9)])).length) Slot.unset).toArray = ls at hl ⊢
  have hl : lv_has ls 3 [(0, .ref a.m), (1, .int (nI e9))] := hl
  have h1 : ws[0]? = some (a.m, .inr (5, [.int (nI st.th), .ref a.aS, .ref a.aK, .ref a.aI, .int (nI st.ex), .ref a.aH, .ref a.aF, .ref a.aG, .int (nI st.va), .ref a.aR, .int (nI st.co), .ref a.aL, .ref a.aT, .ref a.aO, .ref a.aB, .ref a.aW, .int (nI st.sv), .int (nI st.kn), .int (nI st.kc)])) := by rw [hw]; rfl
  have h2 : ws[1]? = some (a.aS, aI G 3600 (rI st.S)) := by rw [hw]; rfl
  refine lv_iconst (v := (nI 1)) hx hb d_M_isConstant_0 (by decide) ?_
  refine lv_istore_n (lv' := [(2, .int (nI 1)), (0, .ref a.m), (1, .int (nI e9))]) hx hb d_M_isConstant_1 rfl hl (by decide) rfl (fun ls hl => ?_)
  have loop : ∀ (n i : Nat), i + n = 60 → 0 < i → ∀ (ls : Array Slot), (∀ j, 0 < j → j < i → st.S (60 * e9 + j) = 0) → lv_has ls 3 [(2, .int (nI i)), (0, .ref a.m), (1, .int (nI e9))] → W p l e (headSpec (cw_M_isConstant :: TW) { frames := 1, cells := 0, slots := 0, locals := 26 }).room s m ([.ref a.m, .int (nI e9)] : List Value).toArray below meth c s.heap [] 0 0 (MQ below (qI G A (fun q w9 => ws = w9 ∧ ((q = nI 1 ∧ isK (fun j => st.S (60 * e9 + j))) ∨ (q = nI 0 ∧ ¬ isK (fun j => st.S (60 * e9 + j)))))) ([.ref a.m, .int (nI e9)] : List Value).toArray s 0 0 A) (F0 m 2 ls []) := by
    intro n
    induction n with
    | zero =>
      intro i hi hi0 ls hal hl
      refine lv_iload_n hx hb d_M_isConstant_2 rfl (lv_at hl 0 rfl) ?_
      refine lv_bipush (v := (nI 60)) hx hb d_M_isConstant_3 (by decide) ?_
      refine x_ge hx hb i 60 rfl rfl (by omega) (by omega) (tgt := 30) d_M_isConstant_5 (by decide) (fun c3 => ?_) (fun c3 => ?_)
      · refine lv_iconst (v := (nI 1)) hx hb d_M_isConstant_30 (by decide) ?_
        exact x_zret hx hb hr hlocks hS hP hD (Nat.le_of_ble_eq_true rfl) (Nat.le_of_ble_eq_true rfl) d_M_isConstant_31 rfl (⟨rfl, Or.inl ⟨rfl, fun j j1 j2 => hal j j1 (by omega)⟩⟩)
      · exact False.elim (by omega)
    | succ n ih =>
      intro i hi hi0 ls hal hl
      refine lv_iload_n hx hb d_M_isConstant_2 rfl (lv_at hl 0 rfl) ?_
      refine lv_bipush (v := (nI 60)) hx hb d_M_isConstant_3 (by decide) ?_
      refine x_ge hx hb i 60 rfl rfl (by omega) (by omega) (tgt := 30) d_M_isConstant_5 (by decide) (fun c4 => ?_) (fun c4 => ?_)
      · exact False.elim (by omega)
      · refine lv_aload_n hx hb d_M_isConstant_8 rfl (lv_at hl 1 rfl) ?_
        refine va_get (D := xD G) (ci := 5) (C := R_M) (T := F_M) (N := 19) hx hb ht in_M hown hK hP 0 h1 rfl 1 (by decide) (ht _ k_fl_M_7) (fun _ h9 => h9) rfl d_M_isConstant_9 ?_
        refine lv_bipush (v := (nI 60)) hx hb d_M_isConstant_12 (by decide) ?_
        refine lv_iload_n hx hb d_M_isConstant_14 rfl (lv_at hl 2 rfl) ?_
        refine lv_imul hx hb d_M_isConstant_15 ?_
        refine x_top (nI (60 * e9)) (pk_mul _ _) ?_
        refine lv_iload_n hx hb d_M_isConstant_16 rfl (lv_at hl 0 rfl) ?_
        refine lv_iadd hx hb d_M_isConstant_17 ?_
        refine x_top (nI ((60 * e9) + i)) (nI_add _ _) ?_
        refine x_iald hx hb hK hP h2 ((60 * e9) + i) rfl (by omega) (by omega) d_M_isConstant_18 ?_
        refine x_top (nI (st.S ((60 * e9) + i))) (rfl) ?_
        have b1 := hf i (by omega)
        refine x_if_eq hx hb (st.S ((60 * e9) + i)) rfl (by omega) (tgt := 24) d_M_isConstant_19 (by decide) (fun c5 => ?_) (fun c5 => ?_)
        · refine lv_iinc (v := nI (i + 1)) (lv' := [(2, .int (nI (i + 1))), (0, .ref a.m), (1, .int (nI e9))]) hx hb d_M_isConstant_24 hl (k := 0) rfl (n_inc _) (by decide) rfl (fun ls hl => ?_)
          refine lv_goto (tgt := 2) hx hb d_M_isConstant_27 (by decide) ?_
          exact ih (i + 1) (by omega) (by omega) ls (fun j j1 j2 => by by_cases q : j = i; subst q; exact c5; exact hal j j1 (by omega)) (lv_sub hl [0, 1, 2] rfl)
        · refine lv_iconst (v := (nI 0)) hx hb d_M_isConstant_22 (by decide) ?_
          exact x_zret hx hb hr hlocks hS hP hD (Nat.le_of_ble_eq_true rfl) (Nat.le_of_ble_eq_true rfl) d_M_isConstant_23 rfl (⟨rfl, Or.inr ⟨rfl, fun q => c5 (q i (by omega) (by omega))⟩⟩)
  exact loop 59 1 (by decide) (by decide) ls (fun j j1 j2 => by omega) (lv_sub hl [0, 1, 2] rfl)

set_option maxHeartbeats 4000000 in
set_option maxRecDepth 100000 in
theorem c_M_keep (l : Launch) (G : xG) (A : Nat → Prop) (ws : va_W) (a : MA) (st : MS) (hw : ws = mW G a st) (k r : Nat) (f : Nat → Nat) (h0 : ws[k]? = some (r, aI G 60 (rI f))) (hk : 8 ≤ k) (c9 t : Nat) (hc9 : c9 < 80) (ht9 : t < 3) : Met l y_M_keep (cw_M_keep :: TW) { frames := 1, cells := 0, slots := 0, locals := 26 } (va_Pc [.ref a.m, .int (nI c9), .int (nI t), .ref r] (x_P G A ws)) (qV G A (fun w9 => w9 = ws.set 7 (a.aR, aI G 14400 (rI (ovb 60 (180 * c9 + 60 * t) st.R f))))) 0 0 A := by
  refine Met.ofW (cc := b_M_keep) (maxL := 5) (ret := none) (by decide) rfl ?_
  intro p e s m args below meth c s₁ B hml hv
  obtain ⟨rfl, hE, hA, hP, hD⟩ := hv
  have hx := B.exec
  have hb := B.bytes
  have hr := B.returns
  have ht : ∀ w ∈ TW, w.before _ s = true := fun w h => atoms_spec (ws := cw_M_keep :: TW) B.pre w (List.mem_cons_of_mem _ h)
  have hown : s.vm.findClass R_M = some m.cls := findClass_of_methodNamed B.named
  have hlocks := B.notSynchronized
  have hK := hE.1
  have hS : va_S A s.heap s.heap [] := va_S.rf
  have hl := lv_entry ([.ref a.m, .int (nI c9), .int (nI t), .ref r]) (n := 5) (Nat.le_of_ble_eq_true rfl)
  rw [lg_entry_eq]
  generalize (lg_sl ([.ref a.m, .int (nI c9), .int (nI t), .ref r]) ++ List.replicate (5 - (lg_sl ([.ref a.m, .int (nI c9), .int (nI t), .ref r])).length) Slot.unset).toArray = ls at hl ⊢
  have hl : lv_has ls 5 [(0, .ref a.m), (1, .int (nI c9)), (2, .int (nI t)), (3, .ref r)] := hl
  have h1 : ws[0]? = some (a.m, .inr (5, [.int (nI st.th), .ref a.aS, .ref a.aK, .ref a.aI, .int (nI st.ex), .ref a.aH, .ref a.aF, .ref a.aG, .int (nI st.va), .ref a.aR, .int (nI st.co), .ref a.aL, .ref a.aT, .ref a.aO, .ref a.aB, .ref a.aW, .int (nI st.sv), .int (nI st.kn), .int (nI st.kc)])) := by rw [hw]; rfl
  have h2 : ws[7]? = some (a.aR, aI G 14400 (rI st.R)) := by rw [hw]; rfl
  refine lv_iconst (v := (nI 0)) hx hb d_M_keep_0 (by decide) ?_
  refine lv_istore (lv' := [(4, .int (nI 0)), (0, .ref a.m), (1, .int (nI c9)), (2, .int (nI t)), (3, .ref r)]) hx hb d_M_keep_1 hl (by decide) rfl (fun ls hl => ?_)
  have z9 : ws = (ws.set 7 (a.aR, aI G 14400 (rI (ovb 0 (180 * c9 + 60 * t) st.R f)))) := by rw [ovb_0]; exact (w_self h2).symm
  rw [z9] at hP hD
  have loop : ∀ (n i : Nat), i + n = 60 → ∀ (H : Heap) (locs : List Loc) (ls : Array Slot), (va_P (xD G) CL (ws.set 7 (a.aR, aI G 14400 (rI (ovb i (180 * c9 + 60 * t) st.R f)))) H) → (va_D A (ws.set 7 (a.aR, aI G 14400 (rI (ovb i (180 * c9 + 60 * t) st.R f))))) → (va_S A s.heap H locs) → lv_has ls 5 [(4, .int (nI i)), (0, .ref a.m), (1, .int (nI c9)), (2, .int (nI t)), (3, .ref r)] → W p l e (headSpec (cw_M_keep :: TW) { frames := 1, cells := 0, slots := 0, locals := 26 }).room s m ([.ref a.m, .int (nI c9), .int (nI t), .ref r] : List Value).toArray below meth c H locs 0 0 (MQ below (qV G A (fun w9 => w9 = ws.set 7 (a.aR, aI G 14400 (rI (ovb 60 (180 * c9 + 60 * t) st.R f))))) ([.ref a.m, .int (nI c9), .int (nI t), .ref r] : List Value).toArray s 0 0 A) (F0 m 3 ls []) := by
    intro n
    induction n with
    | zero =>
      intro i hi H locs ls hP hD hS hl
      refine lv_iload hx hb d_M_keep_3 (lv_at hl 0 rfl) ?_
      refine lv_bipush (v := (nI 60)) hx hb d_M_keep_5 (by decide) ?_
      refine x_ge hx hb i 60 rfl rfl (by omega) (by omega) (tgt := 38) d_M_keep_7 (by decide) (fun c3 => ?_) (fun c3 => ?_)
      · have i0 : i = 60 := by omega
        rw [i0] at hP hD
        obtain ⟨w4, e_w4⟩ : ∃ zz : va_W, zz = (ws.set 7 (a.aR, aI G 14400 (rI (ovb 60 (180 * c9 + 60 * t) st.R f)))) := ⟨_, rfl⟩
        rw [← e_w4] at hP hD
        have h5 : w4[0]? = some (a.m, .inr (5, [.int (nI st.th), .ref a.aS, .ref a.aK, .ref a.aI, .int (nI st.ex), .ref a.aH, .ref a.aF, .ref a.aG, .int (nI st.va), .ref a.aR, .int (nI st.co), .ref a.aL, .ref a.aT, .ref a.aO, .ref a.aB, .ref a.aW, .int (nI st.sv), .int (nI st.kn), .int (nI st.kc)])) := by rw [e_w4]; exact w_ne (by omega) h1
        have h6 : w4[7]? = some (a.aR, aI G 14400 (rI (ovb 60 (180 * c9 + 60 * t) st.R f))) := by rw [e_w4]; exact w_eq h2
        have h7 : w4[k]? = some (r, aI G 60 (rI f)) := by rw [e_w4]; exact w_ne (by omega) h0
        exact x_vret hx hb hr hlocks hS hP hD (Nat.le_of_ble_eq_true rfl) (Nat.le_of_ble_eq_true rfl) d_M_keep_38 (e_w4)
      · exact False.elim (by omega)
    | succ n ih =>
      intro i hi H locs ls hP hD hS hl
      refine lv_iload hx hb d_M_keep_3 (lv_at hl 0 rfl) ?_
      refine lv_bipush (v := (nI 60)) hx hb d_M_keep_5 (by decide) ?_
      refine x_ge hx hb i 60 rfl rfl (by omega) (by omega) (tgt := 38) d_M_keep_7 (by decide) (fun c8 => ?_) (fun c8 => ?_)
      · exact False.elim (by omega)
      · obtain ⟨w9, e_w9⟩ : ∃ zz : va_W, zz = (ws.set 7 (a.aR, aI G 14400 (rI (ovb i (180 * c9 + 60 * t) st.R f)))) := ⟨_, rfl⟩
        rw [← e_w9] at hP hD
        have h10 : w9[0]? = some (a.m, .inr (5, [.int (nI st.th), .ref a.aS, .ref a.aK, .ref a.aI, .int (nI st.ex), .ref a.aH, .ref a.aF, .ref a.aG, .int (nI st.va), .ref a.aR, .int (nI st.co), .ref a.aL, .ref a.aT, .ref a.aO, .ref a.aB, .ref a.aW, .int (nI st.sv), .int (nI st.kn), .int (nI st.kc)])) := by rw [e_w9]; exact w_ne (by omega) h1
        have h11 : w9[7]? = some (a.aR, aI G 14400 (rI (ovb i (180 * c9 + 60 * t) st.R f))) := by rw [e_w9]; exact w_eq h2
        have h12 : w9[k]? = some (r, aI G 60 (rI f)) := by rw [e_w9]; exact w_ne (by omega) h0
        refine lv_aload_n hx hb d_M_keep_10 rfl (lv_at hl 1 rfl) ?_
        refine va_get (D := xD G) (ci := 5) (C := R_M) (T := F_M) (N := 19) hx hb ht in_M hown hK hP 0 h10 rfl 9 (by decide) (ht _ k_fl_M_32) (fun _ h9 => h9) rfl d_M_keep_11 ?_
        refine lv_sipush (v := (nI 180)) hx hb d_M_keep_14 (by decide) ?_
        refine lv_iload_n hx hb d_M_keep_17 rfl (lv_at hl 2 rfl) ?_
        refine lv_imul hx hb d_M_keep_18 ?_
        refine x_top (nI (180 * c9)) (pk_mul _ _) ?_
        refine lv_bipush (v := (nI 60)) hx hb d_M_keep_19 (by decide) ?_
        refine lv_iload_n hx hb d_M_keep_21 rfl (lv_at hl 3 rfl) ?_
        refine lv_imul hx hb d_M_keep_22 ?_
        refine x_top (nI (60 * t)) (pk_mul _ _) ?_
        refine lv_iadd hx hb d_M_keep_23 ?_
        refine x_top (nI ((180 * c9) + (60 * t))) (nI_add _ _) ?_
        refine lv_iload hx hb d_M_keep_24 (lv_at hl 0 rfl) ?_
        refine lv_iadd hx hb d_M_keep_26 ?_
        refine x_top (nI (((180 * c9) + (60 * t)) + i)) (nI_add _ _) ?_
        refine lv_aload_n hx hb d_M_keep_27 rfl (lv_at hl 4 rfl) ?_
        refine lv_iload hx hb d_M_keep_28 (lv_at hl 0 rfl) ?_
        refine x_iald hx hb hK hP h12 i rfl (by omega) (by omega) d_M_keep_30 ?_
        refine x_top (nI (f i)) (rfl) ?_
        refine x_iast hx hb hK hP hD hS h11 (((180 * c9) + (60 * t)) + i) rfl (by omega) (by omega) d_M_keep_31 (fun H locs hP hD hS => ?_)
        have hP : va_P (xD G) CL (w9.set 7 (a.aR, aI G 14400 (upd (rI (ovb i (180 * c9 + 60 * t) st.R f)) (((180 * c9) + (60 * t)) + i) (nI (f i))))) H := hP
        have hD : va_D A (w9.set 7 (a.aR, aI G 14400 (upd (rI (ovb i (180 * c9 + 60 * t) st.R f)) (((180 * c9) + (60 * t)) + i) (nI (f i))))) := hD
        obtain ⟨w13, e_w13⟩ : ∃ zz : va_W, zz = w9.set 7 (a.aR, aI G 14400 (upd (rI (ovb i (180 * c9 + 60 * t) st.R f)) (((180 * c9) + (60 * t)) + i) (nI (f i)))) := ⟨_, rfl⟩
        rw [← e_w13] at hP hD
        have h14 : w13[7]? = some (a.aR, aI G 14400 (upd (rI (ovb i (180 * c9 + 60 * t) st.R f)) (((180 * c9) + (60 * t)) + i) (nI (f i)))) := by rw [e_w13]; exact w_eq h11
        have eN9 : w13 = (ws.set 7 (a.aR, aI G 14400 (rI (ovb (i + 1) (180 * c9 + 60 * t) st.R f)))) := by rw [e_w13, e_w9, List.set_set, up_rI]; exact congrArg (fun q9 => ws.set 7 (a.aR, aI G 14400 (rI q9))) ovb_s
        refine lv_iinc (v := nI (i + 1)) (lv' := [(4, .int (nI (i + 1))), (0, .ref a.m), (1, .int (nI c9)), (2, .int (nI t)), (3, .ref r)]) hx hb d_M_keep_32 hl (k := 0) rfl (n_inc _) (by decide) rfl (fun ls hl => ?_)
        refine lv_goto (tgt := 3) hx hb d_M_keep_35 (by decide) ?_
        exact ih (i + 1) (by omega) H locs ls (by rw [← eN9]; exact hP) (by rw [← eN9]; exact hD) hS (lv_sub hl [0, 1, 2, 3, 4] rfl)
  exact loop 60 0 (by omega) s.heap [] ls hP hD hS (lv_sub hl [0, 1, 2, 3, 4] rfl)

set_option maxHeartbeats 4000000 in
set_option maxRecDepth 100000 in
theorem c_M_var (l : Launch) (G : xG) (A : Nat → Prop) (ws : va_W) (a : MA) (st : MS) (hw : ws = mW G a st) (bV : st.va < 60) (y c9 : Nat) : Met l y_M_variable (cw_M_variable :: TW) { frames := 1, cells := 0, slots := 0, locals := 26 } (va_Pc [.ref a.m, .int (nI y), .int (nI c9)] (x_P G A ws)) (qI G A (fun r w9 => r = nI st.va ∧ w9 = mW G a ⟨st.th, st.ex, st.va + 1, st.co, st.sv, st.kn, st.kc, st.S, st.Kd, st.In, va_up st.Hw st.va y, va_up st.Fr st.va c9, va_up st.Gn st.va 0, st.R, st.L, st.T, st.O, st.B, st.W⟩)) 0 0 A := by
  refine Met.ofW (cc := b_M_variable) (maxL := 3) (ret := (some .int)) (by decide) rfl ?_
  intro p e s m args below meth c s₁ B hml hv
  obtain ⟨rfl, hE, hA, hP, hD⟩ := hv
  have hx := B.exec
  have hb := B.bytes
  have hr := B.returns
  have ht : ∀ w ∈ TW, w.before _ s = true := fun w h => atoms_spec (ws := cw_M_variable :: TW) B.pre w (List.mem_cons_of_mem _ h)
  have hown : s.vm.findClass R_M = some m.cls := findClass_of_methodNamed B.named
  have hlocks := B.notSynchronized
  have hK := hE.1
  have hS : va_S A s.heap s.heap [] := va_S.rf
  have hl := lv_entry ([.ref a.m, .int (nI y), .int (nI c9)]) (n := 3) (Nat.le_of_ble_eq_true rfl)
  rw [lg_entry_eq]
  generalize (lg_sl ([.ref a.m, .int (nI y), .int (nI c9)]) ++ List.replicate (3 - (lg_sl ([.ref a.m, .int (nI y), .int (nI c9)])).length) Slot.unset).toArray = ls at hl ⊢
  have hl : lv_has ls 3 [(0, .ref a.m), (1, .int (nI y)), (2, .int (nI c9))] := hl
  have h1 : ws[0]? = some (a.m, .inr (5, [.int (nI st.th), .ref a.aS, .ref a.aK, .ref a.aI, .int (nI st.ex), .ref a.aH, .ref a.aF, .ref a.aG, .int (nI st.va), .ref a.aR, .int (nI st.co), .ref a.aL, .ref a.aT, .ref a.aO, .ref a.aB, .ref a.aW, .int (nI st.sv), .int (nI st.kn), .int (nI st.kc)])) := by rw [hw]; rfl
  have h2 : ws[4]? = some (a.aH, aI G 60 (rI st.Hw)) := by rw [hw]; rfl
  refine lv_aload_n hx hb d_M_variable_0 rfl (lv_at hl 0 rfl) ?_
  refine va_get (D := xD G) (ci := 5) (C := R_M) (T := F_M) (N := 19) hx hb ht in_M hown hK hP 0 h1 rfl 5 (by decide) (ht _ k_fl_M_19) (fun _ h9 => h9) rfl d_M_variable_1 ?_
  refine lv_aload_n hx hb d_M_variable_4 rfl (lv_at hl 0 rfl) ?_
  refine va_get (D := xD G) (ci := 5) (C := R_M) (T := F_M) (N := 19) hx hb ht in_M hown hK hP 0 h1 rfl 8 (by decide) (ht _ k_fl_M_28) (fun _ h9 => h9) rfl d_M_variable_5 ?_
  refine lv_iload_n hx hb d_M_variable_8 rfl (lv_at hl 1 rfl) ?_
  refine x_iast hx hb hK hP hD hS h2 st.va rfl (by omega) (by omega) d_M_variable_9 (fun H locs hP hD hS => ?_)
  have hP : va_P (xD G) CL (ws.set 4 (a.aH, aI G 60 (upd (rI st.Hw) st.va (nI y)))) H := hP
  have hD : va_D A (ws.set 4 (a.aH, aI G 60 (upd (rI st.Hw) st.va (nI y)))) := hD
  obtain ⟨w3, e_w3⟩ : ∃ zz : va_W, zz = ws.set 4 (a.aH, aI G 60 (upd (rI st.Hw) st.va (nI y))) := ⟨_, rfl⟩
  rw [← e_w3] at hP hD
  have h4 : w3[4]? = some (a.aH, aI G 60 (upd (rI st.Hw) st.va (nI y))) := by rw [e_w3]; exact w_eq h2
  have E5 : w3 = mW G a (⟨st.th, st.ex, st.va, st.co, st.sv, st.kn, st.kc, st.S, st.Kd, st.In, (va_up st.Hw st.va y), st.Fr, st.Gn, st.R, st.L, st.T, st.O, st.B, st.W⟩ : MS) := by rw [e_w3, hw, up_rI]; rfl
  have h6 : w3[0]? = some (a.m, .inr (5, [.int (nI st.th), .ref a.aS, .ref a.aK, .ref a.aI, .int (nI st.ex), .ref a.aH, .ref a.aF, .ref a.aG, .int (nI st.va), .ref a.aR, .int (nI st.co), .ref a.aL, .ref a.aT, .ref a.aO, .ref a.aB, .ref a.aW, .int (nI st.sv), .int (nI st.kn), .int (nI st.kc)])) := by rw [E5]; rfl
  have h7 : w3[5]? = some (a.aF, aI G 60 (rI st.Fr)) := by rw [E5]; rfl
  refine lv_aload_n hx hb d_M_variable_10 rfl (lv_at hl 0 rfl) ?_
  refine va_get (D := xD G) (ci := 5) (C := R_M) (T := F_M) (N := 19) hx hb ht in_M hown hK hP 0 h6 rfl 6 (by decide) (ht _ k_fl_M_22) (fun _ h9 => h9) rfl d_M_variable_11 ?_
  refine lv_aload_n hx hb d_M_variable_14 rfl (lv_at hl 0 rfl) ?_
  refine va_get (D := xD G) (ci := 5) (C := R_M) (T := F_M) (N := 19) hx hb ht in_M hown hK hP 0 h6 rfl 8 (by decide) (ht _ k_fl_M_28) (fun _ h9 => h9) rfl d_M_variable_15 ?_
  refine lv_iload_n hx hb d_M_variable_18 rfl (lv_at hl 2 rfl) ?_
  refine x_iast hx hb hK hP hD hS h7 st.va rfl (by omega) (by omega) d_M_variable_19 (fun H locs hP hD hS => ?_)
  have hP : va_P (xD G) CL (w3.set 5 (a.aF, aI G 60 (upd (rI st.Fr) st.va (nI c9)))) H := hP
  have hD : va_D A (w3.set 5 (a.aF, aI G 60 (upd (rI st.Fr) st.va (nI c9)))) := hD
  obtain ⟨w8, e_w8⟩ : ∃ zz : va_W, zz = w3.set 5 (a.aF, aI G 60 (upd (rI st.Fr) st.va (nI c9))) := ⟨_, rfl⟩
  rw [← e_w8] at hP hD
  have h9 : w8[5]? = some (a.aF, aI G 60 (upd (rI st.Fr) st.va (nI c9))) := by rw [e_w8]; exact w_eq h7
  have E10 : w8 = mW G a (⟨st.th, st.ex, st.va, st.co, st.sv, st.kn, st.kc, st.S, st.Kd, st.In, (va_up st.Hw st.va y), (va_up st.Fr st.va c9), st.Gn, st.R, st.L, st.T, st.O, st.B, st.W⟩ : MS) := by rw [e_w8, E5, up_rI]; rfl
  have h11 : w8[0]? = some (a.m, .inr (5, [.int (nI st.th), .ref a.aS, .ref a.aK, .ref a.aI, .int (nI st.ex), .ref a.aH, .ref a.aF, .ref a.aG, .int (nI st.va), .ref a.aR, .int (nI st.co), .ref a.aL, .ref a.aT, .ref a.aO, .ref a.aB, .ref a.aW, .int (nI st.sv), .int (nI st.kn), .int (nI st.kc)])) := by rw [E10]; rfl
  have h12 : w8[6]? = some (a.aG, aI G 60 (rI st.Gn)) := by rw [E10]; rfl
  refine lv_aload_n hx hb d_M_variable_20 rfl (lv_at hl 0 rfl) ?_
  refine va_get (D := xD G) (ci := 5) (C := R_M) (T := F_M) (N := 19) hx hb ht in_M hown hK hP 0 h11 rfl 7 (by decide) (ht _ k_fl_M_25) (fun _ h9 => h9) rfl d_M_variable_21 ?_
  refine lv_aload_n hx hb d_M_variable_24 rfl (lv_at hl 0 rfl) ?_
  refine va_get (D := xD G) (ci := 5) (C := R_M) (T := F_M) (N := 19) hx hb ht in_M hown hK hP 0 h11 rfl 8 (by decide) (ht _ k_fl_M_28) (fun _ h9 => h9) rfl d_M_variable_25 ?_
  refine lv_iconst (v := (nI 0)) hx hb d_M_variable_28 (by decide) ?_
  refine x_iast hx hb hK hP hD hS h12 st.va rfl (by omega) (by omega) d_M_variable_29 (fun H locs hP hD hS => ?_)
  have hP : va_P (xD G) CL (w8.set 6 (a.aG, aI G 60 (upd (rI st.Gn) st.va (nI 0)))) H := hP
  have hD : va_D A (w8.set 6 (a.aG, aI G 60 (upd (rI st.Gn) st.va (nI 0)))) := hD
  obtain ⟨w13, e_w13⟩ : ∃ zz : va_W, zz = w8.set 6 (a.aG, aI G 60 (upd (rI st.Gn) st.va (nI 0))) := ⟨_, rfl⟩
  rw [← e_w13] at hP hD
  have h14 : w13[6]? = some (a.aG, aI G 60 (upd (rI st.Gn) st.va (nI 0))) := by rw [e_w13]; exact w_eq h12
  have E15 : w13 = mW G a (⟨st.th, st.ex, st.va, st.co, st.sv, st.kn, st.kc, st.S, st.Kd, st.In, (va_up st.Hw st.va y), (va_up st.Fr st.va c9), (va_up st.Gn st.va 0), st.R, st.L, st.T, st.O, st.B, st.W⟩ : MS) := by rw [e_w13, E10, up_rI]; rfl
  have h16 : w13[0]? = some (a.m, .inr (5, [.int (nI st.th), .ref a.aS, .ref a.aK, .ref a.aI, .int (nI st.ex), .ref a.aH, .ref a.aF, .ref a.aG, .int (nI st.va), .ref a.aR, .int (nI st.co), .ref a.aL, .ref a.aT, .ref a.aO, .ref a.aB, .ref a.aW, .int (nI st.sv), .int (nI st.kn), .int (nI st.kc)])) := by rw [E15]; rfl
  refine lv_aload_n hx hb d_M_variable_30 rfl (lv_at hl 0 rfl) ?_
  refine lv_dup hx hb d_M_variable_31 rfl ?_
  refine va_get (D := xD G) (ci := 5) (C := R_M) (T := F_M) (N := 19) hx hb ht in_M hown hK hP 0 h16 rfl 8 (by decide) (ht _ k_fl_M_28) (fun _ h9 => h9) rfl d_M_variable_32 ?_
  refine lv_iconst (v := (nI 1)) hx hb d_M_variable_35 (by decide) ?_
  refine lv_iadd hx hb d_M_variable_36 ?_
  refine x_top (nI (st.va + 1)) (nI_add _ _) ?_
  refine va_put (D := xD G) (ci := 5) (v := .int (nI (st.va + 1))) (ty := .int) (C := R_M) (T := F_M) (N := 19) hx hb ht in_M ft_M fo_M nm_M hown hK hP hD hS 0 h16 rfl 8 (by decide) (ht _ k_fl_M_28) (fun _ h9 => h9) rfl (by decide +kernel) rfl rfl (Nat.le_of_ble_eq_true rfl) d_M_variable_37 (fun H locs hP hD hS => ?_)
  have hP : va_P (xD G) CL (w13.set 0 (a.m, .inr (5, [.int (nI st.th), .ref a.aS, .ref a.aK, .ref a.aI, .int (nI st.ex), .ref a.aH, .ref a.aF, .ref a.aG, .int (nI (st.va + 1)), .ref a.aR, .int (nI st.co), .ref a.aL, .ref a.aT, .ref a.aO, .ref a.aB, .ref a.aW, .int (nI st.sv), .int (nI st.kn), .int (nI st.kc)]))) H := hP
  have hD : va_D A (w13.set 0 (a.m, .inr (5, [.int (nI st.th), .ref a.aS, .ref a.aK, .ref a.aI, .int (nI st.ex), .ref a.aH, .ref a.aF, .ref a.aG, .int (nI (st.va + 1)), .ref a.aR, .int (nI st.co), .ref a.aL, .ref a.aT, .ref a.aO, .ref a.aB, .ref a.aW, .int (nI st.sv), .int (nI st.kn), .int (nI st.kc)]))) := hD
  obtain ⟨w17, e_w17⟩ : ∃ zz : va_W, zz = w13.set 0 (a.m, .inr (5, [.int (nI st.th), .ref a.aS, .ref a.aK, .ref a.aI, .int (nI st.ex), .ref a.aH, .ref a.aF, .ref a.aG, .int (nI (st.va + 1)), .ref a.aR, .int (nI st.co), .ref a.aL, .ref a.aT, .ref a.aO, .ref a.aB, .ref a.aW, .int (nI st.sv), .int (nI st.kn), .int (nI st.kc)])) := ⟨_, rfl⟩
  rw [← e_w17] at hP hD
  have h18 : w17[0]? = some (a.m, .inr (5, [.int (nI st.th), .ref a.aS, .ref a.aK, .ref a.aI, .int (nI st.ex), .ref a.aH, .ref a.aF, .ref a.aG, .int (nI (st.va + 1)), .ref a.aR, .int (nI st.co), .ref a.aL, .ref a.aT, .ref a.aO, .ref a.aB, .ref a.aW, .int (nI st.sv), .int (nI st.kn), .int (nI st.kc)])) := by rw [e_w17]; exact w_eq h16
  have E19 : w17 = mW G a (⟨st.th, st.ex, st.va + 1, st.co, st.sv, st.kn, st.kc, st.S, st.Kd, st.In, (va_up st.Hw st.va y), (va_up st.Fr st.va c9), (va_up st.Gn st.va 0), st.R, st.L, st.T, st.O, st.B, st.W⟩ : MS) := by rw [e_w17, E15]; rfl
  have h20 : w17[0]? = some (a.m, .inr (5, [.int (nI st.th), .ref a.aS, .ref a.aK, .ref a.aI, .int (nI st.ex), .ref a.aH, .ref a.aF, .ref a.aG, .int (nI (st.va + 1)), .ref a.aR, .int (nI st.co), .ref a.aL, .ref a.aT, .ref a.aO, .ref a.aB, .ref a.aW, .int (nI st.sv), .int (nI st.kn), .int (nI st.kc)])) := by rw [E19]; rfl
  refine lv_aload_n hx hb d_M_variable_40 rfl (lv_at hl 0 rfl) ?_
  refine va_get (D := xD G) (ci := 5) (C := R_M) (T := F_M) (N := 19) hx hb ht in_M hown hK hP 0 h20 rfl 8 (by decide) (ht _ k_fl_M_28) (fun _ h9 => h9) rfl d_M_variable_41 ?_
  refine lv_iconst (v := (nI 1)) hx hb d_M_variable_44 (by decide) ?_
  refine lv_isub hx hb d_M_variable_45 ?_
  refine x_top (nI ((st.va + 1) - 1)) (pk_sub (by omega)) ?_
  exact x_iret hx hb hr hlocks hS hP hD (Nat.le_of_ble_eq_true rfl) (Nat.le_of_ble_eq_true rfl) d_M_variable_46 (⟨by rw [Nat.add_sub_cancel], E19⟩)

set_option maxHeartbeats 4000000 in
set_option maxRecDepth 100000 in
theorem c_M_raise (l : Launch) (G : xG) (A : Nat → Prop) (ws : va_W) (a : MA) (st : MS) (hw : ws = mW G a st) (c9 : Nat) : Met l y_M_raise (cw_M_raise :: TW) { frames := 1, cells := 0, slots := 0, locals := 26 } (va_Pc [.ref a.m, .int (nI c9)] (x_P G A ws)) (qI G A (fun r w9 => r = nI 0 ∧ w9 = mW G a (⟨c9, st.ex, st.va, st.co, st.sv, st.kn, st.kc, st.S, st.Kd, st.In, st.Hw, st.Fr, st.Gn, st.R, st.L, st.T, st.O, st.B, st.W⟩ : MS))) 0 0 A := by
  refine Met.ofW (cc := b_M_raise) (maxL := 2) (ret := (some .int)) (by decide) rfl ?_
  intro p e s m args below meth c s₁ B hml hv
  obtain ⟨rfl, hE, hA, hP, hD⟩ := hv
  have hx := B.exec
  have hb := B.bytes
  have hr := B.returns
  have ht : ∀ w ∈ TW, w.before _ s = true := fun w h => atoms_spec (ws := cw_M_raise :: TW) B.pre w (List.mem_cons_of_mem _ h)
  have hown : s.vm.findClass R_M = some m.cls := findClass_of_methodNamed B.named
  have hlocks := B.notSynchronized
  have hK := hE.1
  have hS : va_S A s.heap s.heap [] := va_S.rf
  have hl := lv_entry ([.ref a.m, .int (nI c9)]) (n := 2) (Nat.le_of_ble_eq_true rfl)
  rw [lg_entry_eq]
  generalize (lg_sl ([.ref a.m, .int (nI c9)]) ++ List.replicate (2 - (lg_sl ([.ref a.m, .int (nI c9)])).length) Slot.unset).toArray = ls at hl ⊢
  have hl : lv_has ls 2 [(0, .ref a.m), (1, .int (nI c9))] := hl
  have h1 : ws[0]? = some (a.m, .inr (5, [.int (nI st.th), .ref a.aS, .ref a.aK, .ref a.aI, .int (nI st.ex), .ref a.aH, .ref a.aF, .ref a.aG, .int (nI st.va), .ref a.aR, .int (nI st.co), .ref a.aL, .ref a.aT, .ref a.aO, .ref a.aB, .ref a.aW, .int (nI st.sv), .int (nI st.kn), .int (nI st.kc)])) := by rw [hw]; rfl
  refine lv_aload_n hx hb d_M_raise_0 rfl (lv_at hl 0 rfl) ?_
  refine lv_iload_n hx hb d_M_raise_1 rfl (lv_at hl 1 rfl) ?_
  refine va_put (D := xD G) (ci := 5) (v := .int (nI c9)) (ty := .int) (C := R_M) (T := F_M) (N := 19) hx hb ht in_M ft_M fo_M nm_M hown hK hP hD hS 0 h1 rfl 0 (by decide) (ht _ k_fl_M_50) (fun _ h9 => h9) rfl (by decide +kernel) rfl rfl (Nat.le_of_ble_eq_true rfl) d_M_raise_2 (fun H locs hP hD hS => ?_)
  have hP : va_P (xD G) CL (ws.set 0 (a.m, .inr (5, [.int (nI c9), .ref a.aS, .ref a.aK, .ref a.aI, .int (nI st.ex), .ref a.aH, .ref a.aF, .ref a.aG, .int (nI st.va), .ref a.aR, .int (nI st.co), .ref a.aL, .ref a.aT, .ref a.aO, .ref a.aB, .ref a.aW, .int (nI st.sv), .int (nI st.kn), .int (nI st.kc)]))) H := hP
  have hD : va_D A (ws.set 0 (a.m, .inr (5, [.int (nI c9), .ref a.aS, .ref a.aK, .ref a.aI, .int (nI st.ex), .ref a.aH, .ref a.aF, .ref a.aG, .int (nI st.va), .ref a.aR, .int (nI st.co), .ref a.aL, .ref a.aT, .ref a.aO, .ref a.aB, .ref a.aW, .int (nI st.sv), .int (nI st.kn), .int (nI st.kc)]))) := hD
  obtain ⟨w2, e_w2⟩ : ∃ zz : va_W, zz = ws.set 0 (a.m, .inr (5, [.int (nI c9), .ref a.aS, .ref a.aK, .ref a.aI, .int (nI st.ex), .ref a.aH, .ref a.aF, .ref a.aG, .int (nI st.va), .ref a.aR, .int (nI st.co), .ref a.aL, .ref a.aT, .ref a.aO, .ref a.aB, .ref a.aW, .int (nI st.sv), .int (nI st.kn), .int (nI st.kc)])) := ⟨_, rfl⟩
  rw [← e_w2] at hP hD
  have h3 : w2[0]? = some (a.m, .inr (5, [.int (nI c9), .ref a.aS, .ref a.aK, .ref a.aI, .int (nI st.ex), .ref a.aH, .ref a.aF, .ref a.aG, .int (nI st.va), .ref a.aR, .int (nI st.co), .ref a.aL, .ref a.aT, .ref a.aO, .ref a.aB, .ref a.aW, .int (nI st.sv), .int (nI st.kn), .int (nI st.kc)])) := by rw [e_w2]; exact w_eq h1
  have E4 : w2 = mW G a (⟨c9, st.ex, st.va, st.co, st.sv, st.kn, st.kc, st.S, st.Kd, st.In, st.Hw, st.Fr, st.Gn, st.R, st.L, st.T, st.O, st.B, st.W⟩ : MS) := by rw [e_w2, hw]; rfl
  have h5 : w2[0]? = some (a.m, .inr (5, [.int (nI c9), .ref a.aS, .ref a.aK, .ref a.aI, .int (nI st.ex), .ref a.aH, .ref a.aF, .ref a.aG, .int (nI st.va), .ref a.aR, .int (nI st.co), .ref a.aL, .ref a.aT, .ref a.aO, .ref a.aB, .ref a.aW, .int (nI st.sv), .int (nI st.kn), .int (nI st.kc)])) := by rw [E4]; rfl
  refine lv_iconst (v := (nI 0)) hx hb d_M_raise_5 (by decide) ?_
  exact x_iret hx hb hr hlocks hS hP hD (Nat.le_of_ble_eq_true rfl) (Nat.le_of_ble_eq_true rfl) d_M_raise_6 (⟨rfl, E4⟩)

set_option maxHeartbeats 4000000 in
set_option maxRecDepth 100000 in
theorem c_M_thrown (l : Launch) (G : xG) (A : Nat → Prop) (ws : va_W) (a : MA) (st : MS) (hw : ws = mW G a st) : Met l y_M_thrown (cw_M_thrown :: TW) { frames := 1, cells := 0, slots := 0, locals := 26 } (va_Pc [.ref a.m] (x_P G A ws)) (qI G A (fun r w9 => ws = w9 ∧ r = nI st.th)) 0 0 A := by
  refine Met.ofW (cc := b_M_thrown) (maxL := 1) (ret := (some .int)) (by decide) rfl ?_
  intro p e s m args below meth c s₁ B hml hv
  obtain ⟨rfl, hE, hA, hP, hD⟩ := hv
  have hx := B.exec
  have hb := B.bytes
  have hr := B.returns
  have ht : ∀ w ∈ TW, w.before _ s = true := fun w h => atoms_spec (ws := cw_M_thrown :: TW) B.pre w (List.mem_cons_of_mem _ h)
  have hown : s.vm.findClass R_M = some m.cls := findClass_of_methodNamed B.named
  have hlocks := B.notSynchronized
  have hK := hE.1
  have hS : va_S A s.heap s.heap [] := va_S.rf
  have hl := lv_entry ([.ref a.m]) (n := 1) (Nat.le_of_ble_eq_true rfl)
  rw [lg_entry_eq]
  generalize (lg_sl ([.ref a.m]) ++ List.replicate (1 - (lg_sl ([.ref a.m])).length) Slot.unset).toArray = ls at hl ⊢
  have hl : lv_has ls 1 [(0, .ref a.m)] := hl
  have h1 : ws[0]? = some (a.m, .inr (5, [.int (nI st.th), .ref a.aS, .ref a.aK, .ref a.aI, .int (nI st.ex), .ref a.aH, .ref a.aF, .ref a.aG, .int (nI st.va), .ref a.aR, .int (nI st.co), .ref a.aL, .ref a.aT, .ref a.aO, .ref a.aB, .ref a.aW, .int (nI st.sv), .int (nI st.kn), .int (nI st.kc)])) := by rw [hw]; rfl
  refine lv_aload_n hx hb d_M_thrown_0 rfl (lv_at hl 0 rfl) ?_
  refine va_get (D := xD G) (ci := 5) (C := R_M) (T := F_M) (N := 19) hx hb ht in_M hown hK hP 0 h1 rfl 0 (by decide) (ht _ k_fl_M_50) (fun _ h9 => h9) rfl d_M_thrown_1 ?_
  exact x_iret hx hb hr hlocks hS hP hD (Nat.le_of_ble_eq_true rfl) (Nat.le_of_ble_eq_true rfl) d_M_thrown_4 (⟨rfl, rfl⟩)
