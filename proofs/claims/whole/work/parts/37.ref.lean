theorem sm_c {f g w1 w2 : Nat → Nat} (hf : ∀ j, j < 60 → f j = g j) (hw : ∀ j, j < 60 → g j ≠ 0 → w1 j = w2 j) : ∀ n, n ≤ 60 → sm f w1 n = sm g w2 n := by
  intro n
  induction n with
  | zero => intro _; rfl
  | succ n ih =>
    intro h
    show sm f w1 n + f n * w1 n = sm g w2 n + g n * w2 n
    rw [ih (by omega), hf n (by omega)]
    by_cases q : g n = 0
    · rw [q, Nat.zero_mul, Nat.zero_mul]
    · rw [hw n (by omega) q]
theorem vl_c {f g w1 w2 : Nat → Nat} (hf : ∀ j, j < 60 → f j = g j) (hw : ∀ j, j < 60 → g j ≠ 0 → w1 j = w2 j) : vl f w1 = vl g w2 := by unfold vl; rw [sm_c hf hw 60 (Nat.le_refl _)]
theorem vl_f {f g w : Nat → Nat} (hf : ∀ j, j < 60 → f j = g j) : vl f w = vl g w := vl_c hf (fun _ _ _ => rfl)
theorem lastV_lt {f : Nat → Nat} {m : Nat} (hm : 0 < m) : ∀ n, (∀ j, m ≤ j → j ≤ n → f j = 0) → lastV f n < m := by
  intro n
  induction n with
  | zero => intro _; exact hm
  | succ n ih =>
    intro h
    show (if f (n + 1) = 0 then lastV f n else n + 1) < m
    by_cases q : f (n + 1) = 0
    · rw [if_pos q]; exact ih (fun j h1 h2 => h j h1 (by omega))
    · rw [if_neg q]
      by_cases q2 : n + 1 < m
      · exact q2
      · exact absurd (h (n + 1) (by omega) (Nat.le_refl _)) q
theorem lastV_ge {f : Nat → Nat} {j : Nat} (h0 : 0 < j) (hf : f j ≠ 0) : ∀ n, j ≤ n → j ≤ lastV f n := by
  intro n
  induction n with
  | zero => intro h; omega
  | succ n ih =>
    intro h
    show j ≤ (if f (n + 1) = 0 then lastV f n else n + 1)
    by_cases q : f (n + 1) = 0
    · rw [if_pos q]
      by_cases q2 : j = n + 1
      · subst q2; exact absurd q hf
      · exact ih (by omega)
    · rw [if_neg q]; exact h
theorem RW.hq {sv kn kc wV wC c : Nat} {W w : Nat → Nat} {K : List KK} (h : RW sv kn kc W w wV wC K) (hc : c < wC) : hld (kAt K c) W ↔ hld (kAt K c) w := by
  obtain ⟨z1, z2, z3, z4, z5, z6, z8, z7⟩ := h
  have ag : ∀ t, t < 3 → vl (kS (kAt K c) t) W = vl (kS (kAt K c) t) w := fun t ht => vl_c (fun _ _ => rfl) (fun j hj q => z4 j (by
    by_cases q2 : j < wV
    · exact q2
    · exact absurd (z7 c t j hc ht (by omega) hj) q))
  have a0 := ag 0 (by decide)
  have a1 := ag 1 (by decide)
  have a2 := ag 2 (by decide)
  simp only [kS, if_true, if_neg (show ¬ (1 : Nat) = 0 by decide), if_neg (show ¬ (2 : Nat) = 0 by decide), if_neg (show ¬ (2 : Nat) = 1 by decide)] at a0 a1 a2
  show vl (kAt K c).1 W * vl (kAt K c).2.1 W % 97 = vl (kAt K c).2.2 W ↔ vl (kAt K c).1 w * vl (kAt K c).2.1 w % 97 = vl (kAt K c).2.2 w
  rw [a0, a1, a2]

set_option maxHeartbeats 4000000 in
set_option maxRecDepth 100000 in
theorem c_M_valueOf (l : Launch) (G : xG) (A : Nat → Prop) (ws : va_W) (a : MA) (st : MS) (hw : ws = mW G a st) (k r : Nat) (f : Nat → Nat) (h0 : ws[k]? = some (r, aI G 60 (rI f))) (hk : 8 ≤ k) (c9 t : Nat) (hc9 : c9 < 80) (ht9 : t < 3) (bf : ∀ j, j < 60 → f j < 97) (bR : ∀ j, j < 60 → st.R (180 * c9 + 60 * t + j) < 97) : Met l y_M_valueOf (cw_M_valueOf :: TW) { frames := 1, cells := 0, slots := 0, locals := 26 } (va_Pc [.ref a.m, .int (nI c9), .int (nI t), .ref r] (x_P G A ws)) (qI G A (fun q w9 => ws = w9 ∧ q = nI (vl (fun j => st.R (180 * c9 + 60 * t + j)) f))) 0 0 A := by
  refine Met.ofW (cc := b_M_valueOf) (maxL := 6) (ret := (some .int)) (by decide) rfl ?_
  intro p e s m args below meth c s₁ B hml hv
  obtain ⟨rfl, hE, hA, hP, hD⟩ := hv
  have hx := B.exec
  have hb := B.bytes
  have hr := B.returns
  have ht : ∀ w ∈ TW, w.before _ s = true := fun w h => atoms_spec (ws := cw_M_valueOf :: TW) B.pre w (List.mem_cons_of_mem _ h)
  have hown : s.vm.findClass R_M = some m.cls := findClass_of_methodNamed B.named
  have hlocks := B.notSynchronized
  have hK := hE.1
  have hS : va_S A s.heap s.heap [] := va_S.rf
  have hl := lv_entry ([.ref a.m, .int (nI c9), .int (nI t), .ref r]) (n := 6) (Nat.le_of_ble_eq_true rfl)
  rw [lg_entry_eq]
  generalize (lg_sl ([.ref a.m, .int (nI c9), .int (nI t), .ref r]) ++ List.replicate (6 - (lg_sl ([.ref a.m, .int (nI c9), .int (nI t), .ref r])).length) Slot.unset).toArray = ls at hl ⊢
  have hl : lv_has ls 6 [(0, .ref a.m), (1, .int (nI c9)), (2, .int (nI t)), (3, .ref r)] := hl
  have h1 : ws[0]? = some (a.m, .inr (5, [.int (nI st.th), .ref a.aS, .ref a.aK, .ref a.aI, .int (nI st.ex), .ref a.aH, .ref a.aF, .ref a.aG, .int (nI st.va), .ref a.aR, .int (nI st.co), .ref a.aL, .ref a.aT, .ref a.aO, .ref a.aB, .ref a.aW, .int (nI st.sv), .int (nI st.kn), .int (nI st.kc)])) := by rw [hw]; rfl
  have h2 : ws[7]? = some (a.aR, aI G 14400 (rI st.R)) := by rw [hw]; rfl
  refine lv_iconst (v := (nI 0)) hx hb d_M_valueOf_0 (by decide) ?_
  refine lv_istore (lv' := [(4, .int (nI 0)), (0, .ref a.m), (1, .int (nI c9)), (2, .int (nI t)), (3, .ref r)]) hx hb d_M_valueOf_1 hl (by decide) rfl (fun ls hl => ?_)
  refine lv_iconst (v := (nI 0)) hx hb d_M_valueOf_3 (by decide) ?_
  refine lv_istore (lv' := [(5, .int (nI 0)), (4, .int (nI 0)), (0, .ref a.m), (1, .int (nI c9)), (2, .int (nI t)), (3, .ref r)]) hx hb d_M_valueOf_4 hl (by decide) rfl (fun ls hl => ?_)
  have loop : ∀ (n i : Nat), i + n = 60 → ∀ (H : Heap) (locs : List Loc) (ls : Array Slot), (va_P (xD G) CL ws H) → (va_S A s.heap H locs) → lv_has ls 6 [(5, .int (nI i)), (4, .int (nI (sm (fun j => st.R (180 * c9 + 60 * t + j)) f i))), (0, .ref a.m), (1, .int (nI c9)), (2, .int (nI t)), (3, .ref r)] → W p l e (headSpec (cw_M_valueOf :: TW) { frames := 1, cells := 0, slots := 0, locals := 26 }).room s m ([.ref a.m, .int (nI c9), .int (nI t), .ref r] : List Value).toArray below meth c H locs 0 0 (MQ below (qI G A (fun q w9 => ws = w9 ∧ q = nI (vl (fun j => st.R (180 * c9 + 60 * t + j)) f))) ([.ref a.m, .int (nI c9), .int (nI t), .ref r] : List Value).toArray s 0 0 A) (F0 m 6 ls []) := by
    intro n
    induction n with
    | zero =>
      intro i hi H locs ls hP hS hl
      refine lv_iload hx hb d_M_valueOf_6 (lv_at hl 0 rfl) ?_
      refine lv_bipush (v := (nI 60)) hx hb d_M_valueOf_8 (by decide) ?_
      refine x_ge hx hb i 60 rfl rfl (by omega) (by omega) (tgt := 47) d_M_valueOf_10 (by decide) (fun c3 => ?_) (fun c3 => ?_)
      · have i0 : i = 60 := by omega
        have sl := sm_le (f := (fun j => st.R (180 * c9 + 60 * t + j))) bR bf i (by omega)
        refine lv_iload hx hb d_M_valueOf_47 (lv_at hl 1 rfl) ?_
        refine lv_bipush (v := (nI 97)) hx hb d_M_valueOf_49 (by decide) ?_
        refine lv_irem hx hb d_M_valueOf_51 (by decide) ?_
        refine x_top (nI ((sm (fun j => st.R (180 * c9 + 60 * t + j)) f i) % 97)) (pk_rem (by omega) (by omega) (by omega)) ?_
        exact x_iret hx hb hr hlocks hS hP hD (Nat.le_of_ble_eq_true rfl) (Nat.le_of_ble_eq_true rfl) d_M_valueOf_52 (⟨rfl, by rw [i0]; rfl⟩)
      · exact False.elim (by omega)
    | succ n ih =>
      intro i hi H locs ls hP hS hl
      refine lv_iload hx hb d_M_valueOf_6 (lv_at hl 0 rfl) ?_
      refine lv_bipush (v := (nI 60)) hx hb d_M_valueOf_8 (by decide) ?_
      refine x_ge hx hb i 60 rfl rfl (by omega) (by omega) (tgt := 47) d_M_valueOf_10 (by decide) (fun c4 => ?_) (fun c4 => ?_)
      · exact False.elim (by omega)
      · refine lv_iload hx hb d_M_valueOf_13 (lv_at hl 1 rfl) ?_
        refine lv_aload_n hx hb d_M_valueOf_15 rfl (lv_at hl 2 rfl) ?_
        refine va_get (D := xD G) (ci := 5) (C := R_M) (T := F_M) (N := 19) hx hb ht in_M hown hK hP 0 h1 rfl 9 (by decide) (ht _ k_fl_M_32) (fun _ h9 => h9) rfl d_M_valueOf_16 ?_
        refine lv_sipush (v := (nI 180)) hx hb d_M_valueOf_19 (by decide) ?_
        refine lv_iload_n hx hb d_M_valueOf_22 rfl (lv_at hl 3 rfl) ?_
        refine lv_imul hx hb d_M_valueOf_23 ?_
        refine x_top (nI (180 * c9)) (pk_mul _ _) ?_
        refine lv_bipush (v := (nI 60)) hx hb d_M_valueOf_24 (by decide) ?_
        refine lv_iload_n hx hb d_M_valueOf_26 rfl (lv_at hl 4 rfl) ?_
        refine lv_imul hx hb d_M_valueOf_27 ?_
        refine x_top (nI (60 * t)) (pk_mul _ _) ?_
        refine lv_iadd hx hb d_M_valueOf_28 ?_
        refine x_top (nI ((180 * c9) + (60 * t))) (nI_add _ _) ?_
        refine lv_iload hx hb d_M_valueOf_29 (lv_at hl 0 rfl) ?_
        refine lv_iadd hx hb d_M_valueOf_31 ?_
        refine x_top (nI (((180 * c9) + (60 * t)) + i)) (nI_add _ _) ?_
        refine x_iald hx hb hK hP h2 (((180 * c9) + (60 * t)) + i) rfl (by omega) (by omega) d_M_valueOf_32 ?_
        refine x_top (nI (st.R (((180 * c9) + (60 * t)) + i))) (rfl) ?_
        refine lv_aload_n hx hb d_M_valueOf_33 rfl (lv_at hl 5 rfl) ?_
        refine lv_iload hx hb d_M_valueOf_34 (lv_at hl 0 rfl) ?_
        refine x_iald hx hb hK hP h0 i rfl (by omega) (by omega) d_M_valueOf_36 ?_
        refine x_top (nI (f i)) (rfl) ?_
        refine lv_imul hx hb d_M_valueOf_37 ?_
        refine x_top (nI ((st.R (((180 * c9) + (60 * t)) + i)) * (f i))) (pk_mul _ _) ?_
        refine lv_iadd hx hb d_M_valueOf_38 ?_
        refine x_top (nI ((sm (fun j => st.R (180 * c9 + 60 * t + j)) f i) + ((st.R (((180 * c9) + (60 * t)) + i)) * (f i)))) (nI_add _ _) ?_
        refine lv_istore (lv' := [(4, .int (nI ((sm (fun j => st.R (180 * c9 + 60 * t + j)) f i) + ((st.R (((180 * c9) + (60 * t)) + i)) * (f i))))), (5, .int (nI i)), (0, .ref a.m), (1, .int (nI c9)), (2, .int (nI t)), (3, .ref r)]) hx hb d_M_valueOf_39 hl (by decide) rfl (fun ls hl => ?_)
        have e9 : sm (fun j => st.R (180 * c9 + 60 * t + j)) f (i + 1) = sm (fun j => st.R (180 * c9 + 60 * t + j)) f i + st.R (180 * c9 + 60 * t + i) * f i := rfl
        refine lv_iinc (v := nI (i + 1)) (lv' := [(5, .int (nI (i + 1))), (4, .int (nI ((sm (fun j => st.R (180 * c9 + 60 * t + j)) f i) + ((st.R (((180 * c9) + (60 * t)) + i)) * (f i))))), (0, .ref a.m), (1, .int (nI c9)), (2, .int (nI t)), (3, .ref r)]) hx hb d_M_valueOf_41 hl (k := 1) rfl (n_inc _) (by decide) rfl (fun ls hl => ?_)
        refine lv_goto (tgt := 6) hx hb d_M_valueOf_44 (by decide) ?_
        exact ih (i + 1) (by omega) H locs ls hP hS (by rw [e9]; exact (lv_sub hl [0, 1, 2, 3, 4, 5] rfl))
  exact loop 60 0 (by omega) s.heap [] ls hP hS (lv_sub hl [0, 1, 2, 3, 4, 5] rfl)

set_option maxHeartbeats 4000000 in
set_option maxRecDepth 100000 in
theorem c_M_holds (l : Launch) (G : xG) (A : Nat → Prop) (ws : va_W) (a : MA) (st : MS) (hw : ws = mW G a st) (k r : Nat) (f : Nat → Nat) (h0 : ws[k]? = some (r, aI G 60 (rI f))) (hk : 8 ≤ k) (c9 : Nat) (x : KK) (hc9 : c9 < 80) (bf : ∀ j, j < 60 → f j < 97) (hx9 : ∀ t j, t < 3 → j < 60 → st.R (180 * c9 + 60 * t + j) = kS x t j ∧ kS x t j < 97) : Met l y_M_holds (cw_M_holds :: TW) { frames := 2, cells := 0, slots := 0, locals := 52 } (va_Pc [.ref a.m, .int (nI c9), .ref r] (x_P G A ws)) (qI G A (fun q w9 => ws = w9 ∧ ((q = nI 1 ∧ hld x f) ∨ (q = nI 0 ∧ ¬ hld x f)))) 0 0 A := by
  refine Met.ofW (cc := b_M_holds) (maxL := 3) (ret := (some .boolean)) (by decide) rfl ?_
  intro p e s m args below meth c s₁ B hml hv
  obtain ⟨rfl, hE, hA, hP, hD⟩ := hv
  have hx := B.exec
  have hb := B.bytes
  have hr := B.returns
  have ht : ∀ w ∈ TW, w.before _ s = true := fun w h => atoms_spec (ws := cw_M_holds :: TW) B.pre w (List.mem_cons_of_mem _ h)
  have hown : s.vm.findClass R_M = some m.cls := findClass_of_methodNamed B.named
  have hlocks := B.notSynchronized
  have hK := hE.1
  have hS : va_S A s.heap s.heap [] := va_S.rf
  have hl := lv_entry ([.ref a.m, .int (nI c9), .ref r]) (n := 3) (Nat.le_of_ble_eq_true rfl)
  rw [lg_entry_eq]
  generalize (lg_sl ([.ref a.m, .int (nI c9), .ref r]) ++ List.replicate (3 - (lg_sl ([.ref a.m, .int (nI c9), .ref r])).length) Slot.unset).toArray = ls at hl ⊢
  have hl : lv_has ls 3 [(0, .ref a.m), (1, .int (nI c9)), (2, .ref r)] := hl
  have h1 : ws[0]? = some (a.m, .inr (5, [.int (nI st.th), .ref a.aS, .ref a.aK, .ref a.aI, .int (nI st.ex), .ref a.aH, .ref a.aF, .ref a.aG, .int (nI st.va), .ref a.aR, .int (nI st.co), .ref a.aL, .ref a.aT, .ref a.aO, .ref a.aB, .ref a.aW, .int (nI st.sv), .int (nI st.kn), .int (nI st.kc)])) := by rw [hw]; rfl
  refine lv_aload_n hx hb d_M_holds_0 rfl (lv_at hl 0 rfl) ?_
  refine lv_iload_n hx hb d_M_holds_1 rfl (lv_at hl 1 rfl) ?_
  refine lv_iconst (v := (nI 0)) hx hb d_M_holds_2 (by decide) ?_
  refine lv_aload_n hx hb d_M_holds_3 rfl (lv_at hl 2 rfl) ?_
  refine x_calli (va_runV (As := [.int (nI c9), .int (nI 0), .ref r]) (rest := []) ⟨hx, hb, hml, hown, ht⟩ (c_M_valueOf l G A ws a st hw k r f h0 hk c9 0 hc9 (by decide) bf (fun j hj => by rw [(hx9 0 j (by decide) hj).1]; exact (hx9 0 j (by decide) hj).2)) (cwV 3 ht (TW_V k_ml_M_128 k_im_M_valueOf k_se_M_valueOf k_in_M k_code_M_valueOf) rfl rfl rfl hv_M_valueOf ⟨Nat.le_of_ble_eq_true rfl, Nat.le_of_ble_eq_true rfl⟩) ⟨x_blind, va_recv hK hP rfl h1, x_pre hE hA hS hP hD⟩ rfl rfl hl.1 rfl (lv_room (Nat.le_of_ble_eq_true rfl)) d_M_holds_4 ⟨Nat.le_of_ble_eq_true rfl, Nat.le_of_ble_eq_true rfl⟩) hS (fun r4 w3 H locs q2 hP hD hS => ?_)
  obtain ⟨rfl, rfl⟩ := q2
  refine x_top (nI (vl x.1 f)) (by rw [vl_f (fun j hj => (hx9 0 j (by decide) hj).1)]; rfl) ?_
  have v0 := vl_lt x.1 f
  refine lv_aload_n hx hb d_M_holds_7 rfl (lv_at hl 0 rfl) ?_
  refine lv_iload_n hx hb d_M_holds_8 rfl (lv_at hl 1 rfl) ?_
  refine lv_iconst (v := (nI 1)) hx hb d_M_holds_9 (by decide) ?_
  refine lv_aload_n hx hb d_M_holds_10 rfl (lv_at hl 2 rfl) ?_
  refine x_calli (va_runV (As := [.int (nI c9), .int (nI 1), .ref r]) (rest := [.int (nI (vl x.1 f))]) ⟨hx, hb, hml, hown, ht⟩ (c_M_valueOf l G A ws a st hw k r f h0 hk c9 1 hc9 (by decide) bf (fun j hj => by rw [(hx9 1 j (by decide) hj).1]; exact (hx9 1 j (by decide) hj).2)) (cwV 3 ht (TW_V k_ml_M_128 k_im_M_valueOf k_se_M_valueOf k_in_M k_code_M_valueOf) rfl rfl rfl hv_M_valueOf ⟨Nat.le_of_ble_eq_true rfl, Nat.le_of_ble_eq_true rfl⟩) ⟨x_blind, va_recv hK hP rfl h1, x_pre hE hA hS hP hD⟩ rfl rfl hl.1 rfl (lv_room (Nat.le_of_ble_eq_true rfl)) d_M_holds_11 ⟨Nat.le_of_ble_eq_true rfl, Nat.le_of_ble_eq_true rfl⟩) hS (fun r7 w6 H locs q5 hP hD hS => ?_)
  obtain ⟨rfl, rfl⟩ := q5
  refine x_top (nI (vl x.2.1 f)) (by rw [vl_f (fun j hj => (hx9 1 j (by decide) hj).1)]; rfl) ?_
  have v1 := vl_lt x.2.1 f
  have m9 : vl x.1 f * vl x.2.1 f ≤ 96 * 96 := Nat.mul_le_mul (by omega) (by omega)
  refine lv_imul hx hb d_M_holds_14 ?_
  refine x_top (nI ((vl x.1 f) * (vl x.2.1 f))) (pk_mul _ _) ?_
  refine lv_bipush (v := (nI 97)) hx hb d_M_holds_15 (by decide) ?_
  refine lv_irem hx hb d_M_holds_17 (by decide) ?_
  refine x_top (nI (((vl x.1 f) * (vl x.2.1 f)) % 97)) (pk_rem (by omega) (by omega) (by omega)) ?_
  refine lv_aload_n hx hb d_M_holds_18 rfl (lv_at hl 0 rfl) ?_
  refine lv_iload_n hx hb d_M_holds_19 rfl (lv_at hl 1 rfl) ?_
  refine lv_iconst (v := (nI 2)) hx hb d_M_holds_20 (by decide) ?_
  refine lv_aload_n hx hb d_M_holds_21 rfl (lv_at hl 2 rfl) ?_
  refine x_calli (va_runV (As := [.int (nI c9), .int (nI 2), .ref r]) (rest := [.int (nI (((vl x.1 f) * (vl x.2.1 f)) % 97))]) ⟨hx, hb, hml, hown, ht⟩ (c_M_valueOf l G A ws a st hw k r f h0 hk c9 2 hc9 (by decide) bf (fun j hj => by rw [(hx9 2 j (by decide) hj).1]; exact (hx9 2 j (by decide) hj).2)) (cwV 3 ht (TW_V k_ml_M_128 k_im_M_valueOf k_se_M_valueOf k_in_M k_code_M_valueOf) rfl rfl rfl hv_M_valueOf ⟨Nat.le_of_ble_eq_true rfl, Nat.le_of_ble_eq_true rfl⟩) ⟨x_blind, va_recv hK hP rfl h1, x_pre hE hA hS hP hD⟩ rfl rfl hl.1 rfl (lv_room (Nat.le_of_ble_eq_true rfl)) d_M_holds_22 ⟨Nat.le_of_ble_eq_true rfl, Nat.le_of_ble_eq_true rfl⟩) hS (fun r10 w9 H locs q8 hP hD hS => ?_)
  obtain ⟨rfl, rfl⟩ := q8
  refine x_top (nI (vl x.2.2 f)) (by rw [vl_f (fun j hj => (hx9 2 j (by decide) hj).1)]; rfl) ?_
  have v2 := vl_lt x.2.2 f
  refine x_ne hx hb (((vl x.1 f) * (vl x.2.1 f)) % 97) (vl x.2.2 f) rfl rfl (by omega) (by omega) (tgt := 32) d_M_holds_25 (by decide) (fun c11 => ?_) (fun c11 => ?_)
  · refine lv_iconst (v := (nI 0)) hx hb d_M_holds_32 (by decide) ?_
    exact x_zret hx hb hr hlocks hS hP hD (Nat.le_of_ble_eq_true rfl) (Nat.le_of_ble_eq_true rfl) d_M_holds_33 rfl (⟨rfl, Or.inr ⟨rfl, c11⟩⟩)
  · refine lv_iconst (v := (nI 1)) hx hb d_M_holds_28 (by decide) ?_
    refine lv_goto (tgt := 33) hx hb d_M_holds_29 (by decide) ?_
    exact x_zret hx hb hr hlocks hS hP hD (Nat.le_of_ble_eq_true rfl) (Nat.le_of_ble_eq_true rfl) d_M_holds_33 rfl (⟨rfl, Or.inl ⟨rfl, c11⟩⟩)

set_option maxHeartbeats 4000000 in
set_option maxRecDepth 100000 in
theorem c_M_bad (l : Launch) (G : xG) (A : Nat → Prop) (ws : va_W) (a : MA) (st : MS) (hw : ws = mW G a st) (V : List VV) (E : List EE) (K : List KK) (inp : Nat) (w : Nat → Nat) (wV wC : Nat) (hM : MRel st V E K inp w wV wC) (bK : K.length ≤ 80) : Met l y_M_bad (cw_M_bad :: TW) { frames := 3, cells := 0, slots := 0, locals := 78 } (va_Pc [.ref a.m] (x_P G A ws)) (qI G A (fun r w9 => ws = w9 ∧ r = nI (brk K w wC))) 0 0 A := by
  refine Met.ofW (cc := b_M_bad) (maxL := 3) (ret := (some .int)) (by decide) rfl ?_
  intro p e s m args below meth c s₁ B hml hv
  obtain ⟨rfl, hE, hA, hP, hD⟩ := hv
  have hx := B.exec
  have hb := B.bytes
  have hr := B.returns
  have ht : ∀ w ∈ TW, w.before _ s = true := fun w h => atoms_spec (ws := cw_M_bad :: TW) B.pre w (List.mem_cons_of_mem _ h)
  have hown : s.vm.findClass R_M = some m.cls := findClass_of_methodNamed B.named
  have hlocks := B.notSynchronized
  have hK := hE.1
  have hS : va_S A s.heap s.heap [] := va_S.rf
  have hl := lv_entry ([.ref a.m]) (n := 3) (Nat.le_of_ble_eq_true rfl)
  rw [lg_entry_eq]
  generalize (lg_sl ([.ref a.m]) ++ List.replicate (3 - (lg_sl ([.ref a.m])).length) Slot.unset).toArray = ls at hl ⊢
  have hl : lv_has ls 3 [(0, .ref a.m)] := hl
  have hco := hM.1.1
  have hva := hM.2.1.1
  have hex := hM.2.2.1.1
  have hS9 : ∀ e9 j, e9 < E.length → j < 60 → st.S (60 * e9 + j) = sE E e9 j := fun e9 j h1 h2 => (hM.2.2.1.2.1 e9 j h1 h2).1
  have hS8 : ∀ e9 j, e9 < E.length → j < 60 → sE E e9 j < 97 := fun e9 j h1 h2 => (hM.2.2.1.2.1 e9 j h1 h2).2.1
  have hS6 : ∀ e9, e9 < E.length → ∀ j, j < 60 → st.S (60 * e9 + j) < 97 := fun e9 h1 j h2 => by rw [hS9 e9 j h1 h2]; exact hS8 e9 j h1 h2
  have hS7 : ∀ e9 j, e9 < E.length → V.length ≤ j → j < 60 → sE E e9 j = 0 := fun e9 j h1 h3 h2 => (hM.2.2.1.2.1 e9 j h1 h2).2.2 h3
  have hkc := hM.2.2.2.2.1
  have hwc := hM.2.2.2.2.2.2.2.2.1
  have h1 : ws[0]? = some (a.m, .inr (5, [.int (nI st.th), .ref a.aS, .ref a.aK, .ref a.aI, .int (nI st.ex), .ref a.aH, .ref a.aF, .ref a.aG, .int (nI st.va), .ref a.aR, .int (nI st.co), .ref a.aL, .ref a.aT, .ref a.aO, .ref a.aB, .ref a.aW, .int (nI st.sv), .int (nI st.kn), .int (nI st.kc)])) := by rw [hw]; rfl
  have h2 : ws[12]? = some (a.aW, aI G 60 (rI st.W)) := by rw [hw]; rfl
  refine lv_iconst (v := (nI 0)) hx hb d_M_bad_0 (by decide) ?_
  refine lv_istore_n (lv' := [(1, .int (nI 0)), (0, .ref a.m)]) hx hb d_M_bad_1 rfl hl (by decide) rfl (fun ls hl => ?_)
  refine lv_iconst (v := (nI 0)) hx hb d_M_bad_2 (by decide) ?_
  refine lv_istore_n (lv' := [(2, .int (nI 0)), (1, .int (nI 0)), (0, .ref a.m)]) hx hb d_M_bad_3 rfl hl (by decide) rfl (fun ls hl => ?_)
  have loop : ∀ (n i : Nat), i + n = st.kc → ∀ (H : Heap) (locs : List Loc) (ls : Array Slot), (va_P (xD G) CL ws H) → (va_S A s.heap H locs) → lv_has ls 3 [(2, .int (nI i)), (1, .int (nI (brk K w i))), (0, .ref a.m)] → W p l e (headSpec (cw_M_bad :: TW) { frames := 3, cells := 0, slots := 0, locals := 78 }).room s m ([.ref a.m] : List Value).toArray below meth c H locs 0 0 (MQ below (qI G A (fun r w9 => ws = w9 ∧ r = nI (brk K w wC))) ([.ref a.m] : List Value).toArray s 0 0 A) (F0 m 4 ls []) := by
    intro n
    induction n with
    | zero =>
      intro i hi H locs ls hP hS hl
      refine lv_iload_n hx hb d_M_bad_4 rfl (lv_at hl 0 rfl) ?_
      refine lv_aload_n hx hb d_M_bad_5 rfl (lv_at hl 2 rfl) ?_
      refine va_get (D := xD G) (ci := 5) (C := R_M) (T := F_M) (N := 19) hx hb ht in_M hown hK hP 0 h1 rfl 18 (by decide) (ht _ k_fl_M_142) (fun _ h9 => h9) rfl d_M_bad_6 ?_
      refine x_ge hx hb i st.kc rfl rfl (by omega) (by omega) (tgt := 33) d_M_bad_9 (by decide) (fun c3 => ?_) (fun c3 => ?_)
      · have i0 : i = st.kc := by omega
        refine lv_iload_n hx hb d_M_bad_33 rfl (lv_at hl 1 rfl) ?_
        exact x_iret hx hb hr hlocks hS hP hD (Nat.le_of_ble_eq_true rfl) (Nat.le_of_ble_eq_true rfl) d_M_bad_34 (⟨rfl, by rw [i0, hkc]⟩)
      · exact False.elim (by omega)
    | succ n ih =>
      intro i hi H locs ls hP hS hl
      refine lv_iload_n hx hb d_M_bad_4 rfl (lv_at hl 0 rfl) ?_
      refine lv_aload_n hx hb d_M_bad_5 rfl (lv_at hl 2 rfl) ?_
      refine va_get (D := xD G) (ci := 5) (C := R_M) (T := F_M) (N := 19) hx hb ht in_M hown hK hP 0 h1 rfl 18 (by decide) (ht _ k_fl_M_142) (fun _ h9 => h9) rfl d_M_bad_6 ?_
      refine x_ge hx hb i st.kc rfl rfl (by omega) (by omega) (tgt := 33) d_M_bad_9 (by decide) (fun c4 => ?_) (fun c4 => ?_)
      · exact False.elim (by omega)
      · have bl := brk_le K w i
        refine lv_aload_n hx hb d_M_bad_12 rfl (lv_at hl 2 rfl) ?_
        refine lv_iload_n hx hb d_M_bad_13 rfl (lv_at hl 0 rfl) ?_
        refine lv_aload_n hx hb d_M_bad_14 rfl (lv_at hl 2 rfl) ?_
        refine va_get (D := xD G) (ci := 5) (C := R_M) (T := F_M) (N := 19) hx hb ht in_M hown hK hP 0 h1 rfl 15 (by decide) (ht _ k_fl_M_47) (fun _ h9 => h9) rfl d_M_bad_15 ?_
        refine x_calli (va_runV (As := [.int (nI i), .ref a.aW]) (rest := []) ⟨hx, hb, hml, hown, ht⟩ (c_M_holds l G A ws a (⟨st.th, st.ex, st.va, st.co, st.sv, st.kn, st.kc, st.S, st.Kd, st.In, st.Hw, st.Fr, st.Gn, st.R, st.L, st.T, st.O, st.B, st.W⟩ : MS) hw 12 a.aW st.W h2 (by decide) i (kAt K i) (by omega) hM.2.2.2.2.2.2.2.1 (fun t j h1 h2 => ⟨(hM.1.2 i t j (by omega) h1 h2).1, (hM.1.2 i t j (by omega) h1 h2).2.1⟩)) (cwV 2 ht (TW_V k_ml_M_149 k_im_M_holds k_se_M_holds k_in_M k_code_M_holds) rfl rfl rfl hv_M_holds ⟨Nat.le_of_ble_eq_true rfl, Nat.le_of_ble_eq_true rfl⟩) ⟨x_blind, va_recv hK hP rfl h1, x_pre hE hA hS hP hD⟩ rfl rfl hl.1 rfl (lv_room (Nat.le_of_ble_eq_true rfl)) d_M_bad_18 ⟨Nat.le_of_ble_eq_true rfl, Nat.le_of_ble_eq_true rfl⟩) hS (fun r7 w6 H locs q5 hP hD hS => ?_)
        obtain ⟨rfl, ⟨rfl, hq⟩ | ⟨rfl, hq⟩⟩ := q5
        · refine x_if_ne hx hb 1 rfl (by decide) (tgt := 27) d_M_bad_21 (by decide) (fun c8 => ?_) (fun c8 => ?_)
          rotate_left
          · exact False.elim (by omega)
          have hq : hld (kAt K i) w := (hM.2.2.2.hq (by omega)).mp hq
          have e9 : brk K w (i + 1) = brk K w i + 0 := by show brk K w i + _ = _; rw [if_pos hq]
          refine lv_iinc (v := nI (i + 1)) (lv' := [(2, .int (nI (i + 1))), (1, .int (nI (brk K w i))), (0, .ref a.m)]) hx hb d_M_bad_27 hl (k := 0) rfl (n_inc _) (by decide) rfl (fun ls hl => ?_)
          refine lv_goto (tgt := 4) hx hb d_M_bad_30 (by decide) ?_
          exact ih (i + 1) (by omega) H locs ls hP hS (by rw [e9]; exact (lv_sub hl [0, 1, 2] rfl))
        · refine x_if_ne hx hb 0 rfl (by decide) (tgt := 27) d_M_bad_21 (by decide) (fun c9 => ?_) (fun c9 => ?_)
          · exact False.elim (by omega)
          have hq : ¬ hld (kAt K i) w := fun q => hq ((hM.2.2.2.hq (by omega)).mpr q)
          have e9 : brk K w (i + 1) = brk K w i + 1 := by show brk K w i + _ = _; rw [if_neg hq]
          refine lv_iinc (v := nI (brk K w i + 1)) (lv' := [(1, .int (nI (brk K w i + 1))), (2, .int (nI i)), (0, .ref a.m)]) hx hb d_M_bad_24 hl (k := 1) rfl (n_inc _) (by decide) rfl (fun ls hl => ?_)
          refine lv_iinc (v := nI (i + 1)) (lv' := [(2, .int (nI (i + 1))), (1, .int (nI (brk K w i + 1))), (0, .ref a.m)]) hx hb d_M_bad_27 hl (k := 1) rfl (n_inc _) (by decide) rfl (fun ls hl => ?_)
          refine lv_goto (tgt := 4) hx hb d_M_bad_30 (by decide) ?_
          exact ih (i + 1) (by omega) H locs ls hP hS (by rw [e9]; exact (lv_sub hl [0, 1, 2] rfl))
  exact loop st.kc 0 (by omega) s.heap [] ls hP hS (lv_sub hl [0, 1, 2] rfl)

set_option maxHeartbeats 4000000 in
set_option maxRecDepth 100000 in
theorem m_broken (l : Launch) (G : xG) (A : Nat → Prop) (ws : va_W) (a : MA) (st : MS) (hw : ws = mW G a st) (V : List VV) (E : List EE) (K : List KK) (inp : Nat) (w : Nat → Nat) (wV wC : Nat) (hM : MRel st V E K inp w wV wC) (hI : okI V E K inp wV wC) : Met l y_M_broken (cw_M_broken :: TW) { frames := 7, cells := 0, slots := 0, locals := 182 } (va_Pc [.ref a.m] (x_P G A ws)) (qI G A (fun r w9 => ∃ st' : MS, w9 = mW G a st' ∧ ((st'.th = 0 ∧ 0 < wV ∧ r = nI (brk K w wC) ∧ MRel st' V E K inp w wV wC) ∨ (st'.th = 1 ∧ (wV = 0) ∧ MRel st' V E K inp w wV wC)))) 0 0 A := by
  refine Met.ofW (cc := b_M_broken) (maxL := 1) (ret := (some .int)) (by decide) rfl ?_
  intro p e s m args below meth c s₁ B hml hv
  obtain ⟨rfl, hE, hA, hP, hD⟩ := hv
  have hx := B.exec
  have hb := B.bytes
  have hr := B.returns
  have ht : ∀ w ∈ TW, w.before _ s = true := fun w h => atoms_spec (ws := cw_M_broken :: TW) B.pre w (List.mem_cons_of_mem _ h)
  have hown : s.vm.findClass R_M = some m.cls := findClass_of_methodNamed B.named
  have hlocks := B.notSynchronized
  have hK := hE.1
  have hS : va_S A s.heap s.heap [] := va_S.rf
  have hl := lv_entry ([.ref a.m]) (n := 1) (Nat.le_of_ble_eq_true rfl)
  rw [lg_entry_eq]
  generalize (lg_sl ([.ref a.m]) ++ List.replicate (1 - (lg_sl ([.ref a.m])).length) Slot.unset).toArray = ls at hl ⊢
  have hl : lv_has ls 1 [(0, .ref a.m)] := hl
  obtain ⟨i1, i2, i3, i4, i5, i6, i7, i8, i9⟩ := id hI
  have hsv := hM.2.2.2.2.2.1
  have sv1 : st.sv ≤ 1 := by rw [hsv]; split <;> omega
  have sv0 : st.sv = 0 ↔ wV = 0 := by rw [hsv]; split <;> omega
  have hkn := hM.2.2.2.1
  have hkc := hM.2.2.2.2.1
  have h1 : ws[0]? = some (a.m, .inr (5, [.int (nI st.th), .ref a.aS, .ref a.aK, .ref a.aI, .int (nI st.ex), .ref a.aH, .ref a.aF, .ref a.aG, .int (nI st.va), .ref a.aR, .int (nI st.co), .ref a.aL, .ref a.aT, .ref a.aO, .ref a.aB, .ref a.aW, .int (nI st.sv), .int (nI st.kn), .int (nI st.kc)])) := by rw [hw]; rfl
  refine lv_aload_n hx hb d_M_broken_0 rfl (lv_at hl 0 rfl) ?_
  refine lv_iconst (v := (nI 0)) hx hb d_M_broken_1 (by decide) ?_
  refine va_put (D := xD G) (ci := 5) (v := .int (nI 0)) (ty := .int) (C := R_M) (T := F_M) (N := 19) hx hb ht in_M ft_M fo_M nm_M hown hK hP hD hS 0 h1 rfl 0 (by decide) (ht _ k_fl_M_50) (fun _ h9 => h9) rfl (by decide +kernel) rfl rfl (Nat.le_of_ble_eq_true rfl) d_M_broken_2 (fun H locs hP hD hS => ?_)
  have hP : va_P (xD G) CL (ws.set 0 (a.m, .inr (5, [.int (nI 0), .ref a.aS, .ref a.aK, .ref a.aI, .int (nI st.ex), .ref a.aH, .ref a.aF, .ref a.aG, .int (nI st.va), .ref a.aR, .int (nI st.co), .ref a.aL, .ref a.aT, .ref a.aO, .ref a.aB, .ref a.aW, .int (nI st.sv), .int (nI st.kn), .int (nI st.kc)]))) H := hP
  have hD : va_D A (ws.set 0 (a.m, .inr (5, [.int (nI 0), .ref a.aS, .ref a.aK, .ref a.aI, .int (nI st.ex), .ref a.aH, .ref a.aF, .ref a.aG, .int (nI st.va), .ref a.aR, .int (nI st.co), .ref a.aL, .ref a.aT, .ref a.aO, .ref a.aB, .ref a.aW, .int (nI st.sv), .int (nI st.kn), .int (nI st.kc)]))) := hD
  obtain ⟨w2, e_w2⟩ : ∃ zz : va_W, zz = ws.set 0 (a.m, .inr (5, [.int (nI 0), .ref a.aS, .ref a.aK, .ref a.aI, .int (nI st.ex), .ref a.aH, .ref a.aF, .ref a.aG, .int (nI st.va), .ref a.aR, .int (nI st.co), .ref a.aL, .ref a.aT, .ref a.aO, .ref a.aB, .ref a.aW, .int (nI st.sv), .int (nI st.kn), .int (nI st.kc)])) := ⟨_, rfl⟩
  rw [← e_w2] at hP hD
  have h3 : w2[0]? = some (a.m, .inr (5, [.int (nI 0), .ref a.aS, .ref a.aK, .ref a.aI, .int (nI st.ex), .ref a.aH, .ref a.aF, .ref a.aG, .int (nI st.va), .ref a.aR, .int (nI st.co), .ref a.aL, .ref a.aT, .ref a.aO, .ref a.aB, .ref a.aW, .int (nI st.sv), .int (nI st.kn), .int (nI st.kc)])) := by rw [e_w2]; exact w_eq h1
  have E4 : w2 = mW G a (⟨0, st.ex, st.va, st.co, st.sv, st.kn, st.kc, st.S, st.Kd, st.In, st.Hw, st.Fr, st.Gn, st.R, st.L, st.T, st.O, st.B, st.W⟩ : MS) := by rw [e_w2, hw]; rfl
  have h5 : w2[0]? = some (a.m, .inr (5, [.int (nI 0), .ref a.aS, .ref a.aK, .ref a.aI, .int (nI st.ex), .ref a.aH, .ref a.aF, .ref a.aG, .int (nI st.va), .ref a.aR, .int (nI st.co), .ref a.aL, .ref a.aT, .ref a.aO, .ref a.aB, .ref a.aW, .int (nI st.sv), .int (nI st.kn), .int (nI st.kc)])) := by rw [E4]; rfl
  refine lv_aload_n hx hb d_M_broken_5 rfl (lv_at hl 0 rfl) ?_
  refine va_get (D := xD G) (ci := 5) (C := R_M) (T := F_M) (N := 19) hx hb ht in_M hown hK hP 0 h5 rfl 16 (by decide) (ht _ k_fl_M_135) (fun _ h9 => h9) rfl d_M_broken_6 ?_
  refine x_if_eq hx hb st.sv rfl (by omega) (tgt := 19) d_M_broken_9 (by decide) (fun c6 => ?_) (fun c6 => ?_)
  · refine lv_aload_n hx hb d_M_broken_19 rfl (lv_at hl 0 rfl) ?_
    refine lv_iconst (v := (nI 1)) hx hb d_M_broken_20 (by decide) ?_
    refine x_calli (va_runV (As := [.int (nI 1)]) (rest := []) ⟨hx, hb, hml, hown, ht⟩ (c_M_raise l G A w2 a (⟨0, st.ex, st.va, st.co, st.sv, st.kn, st.kc, st.S, st.Kd, st.In, st.Hw, st.Fr, st.Gn, st.R, st.L, st.T, st.O, st.B, st.W⟩ : MS) E4 1) (cwV 1 ht (TW_V k_ml_M_117 k_im_M_raise k_se_M_raise k_in_M k_code_M_raise) rfl rfl rfl hv_M_raise ⟨Nat.le_of_ble_eq_true rfl, Nat.le_of_ble_eq_true rfl⟩) ⟨x_blind, va_recv hK hP rfl h5, x_pre hE hA hS hP hD⟩ rfl rfl hl.1 rfl (lv_room (Nat.le_of_ble_eq_true rfl)) d_M_broken_21 ⟨Nat.le_of_ble_eq_true rfl, Nat.le_of_ble_eq_true rfl⟩) hS (fun r9 w8 H locs q7 hP hD hS => ?_)
    obtain ⟨rfl, q7⟩ := q7
    have E10 : w8 = mW G a (⟨1, st.ex, st.va, st.co, st.sv, st.kn, st.kc, st.S, st.Kd, st.In, st.Hw, st.Fr, st.Gn, st.R, st.L, st.T, st.O, st.B, st.W⟩ : MS) := q7
    have h11 : w8[0]? = some (a.m, .inr (5, [.int (nI 1), .ref a.aS, .ref a.aK, .ref a.aI, .int (nI st.ex), .ref a.aH, .ref a.aF, .ref a.aG, .int (nI st.va), .ref a.aR, .int (nI st.co), .ref a.aL, .ref a.aT, .ref a.aO, .ref a.aB, .ref a.aW, .int (nI st.sv), .int (nI st.kn), .int (nI st.kc)])) := by rw [E10]; rfl
    exact x_iret hx hb hr hlocks hS hP hD (Nat.le_of_ble_eq_true rfl) (Nat.le_of_ble_eq_true rfl) d_M_broken_24 (⟨_, E10, Or.inr (⟨rfl, sv0.mp c6, hM⟩)⟩)
  · refine lv_aload_n hx hb d_M_broken_12 rfl (lv_at hl 0 rfl) ?_
    refine x_calli (va_runV (As := []) (rest := []) ⟨hx, hb, hml, hown, ht⟩ (c_M_bad l G A w2 a (⟨0, st.ex, st.va, st.co, st.sv, st.kn, st.kc, st.S, st.Kd, st.In, st.Hw, st.Fr, st.Gn, st.R, st.L, st.T, st.O, st.B, st.W⟩ : MS) E4 V E K inp w wV wC hM i4) (cwV 0 ht (TW_V k_ml_M_145 k_im_M_bad k_se_M_bad k_in_M k_code_M_bad) rfl rfl rfl hv_M_bad ⟨Nat.le_of_ble_eq_true rfl, Nat.le_of_ble_eq_true rfl⟩) ⟨x_blind, va_recv hK hP rfl h5, x_pre hE hA hS hP hD⟩ rfl rfl hl.1 rfl (lv_room (Nat.le_of_ble_eq_true rfl)) d_M_broken_13 ⟨Nat.le_of_ble_eq_true rfl, Nat.le_of_ble_eq_true rfl⟩) hS (fun r14 w13 H locs q12 hP hD hS => ?_)
    obtain ⟨rfl, rfl⟩ := q12
    refine lv_goto (tgt := 24) hx hb d_M_broken_16 (by decide) ?_
    exact x_iret hx hb hr hlocks hS hP hD (Nat.le_of_ble_eq_true rfl) (Nat.le_of_ble_eq_true rfl) d_M_broken_24 (⟨_, E4, Or.inl ⟨rfl, by omega, rfl, hM⟩⟩)

set_option maxHeartbeats 4000000 in
set_option maxRecDepth 100000 in
theorem m_first (l : Launch) (G : xG) (A : Nat → Prop) (ws : va_W) (a : MA) (st : MS) (hw : ws = mW G a st) (V : List VV) (E : List EE) (K : List KK) (inp : Nat) (w : Nat → Nat) (wV wC : Nat) (hM : MRel st V E K inp w wV wC) (hI : okI V E K inp wV wC) : Met l y_M_first (cw_M_first :: TW) { frames := 7, cells := 0, slots := 0, locals := 182 } (va_Pc [.ref a.m] (x_P G A ws)) (qI G A (fun r w9 => ∃ st' : MS, w9 = mW G a st' ∧ ((st'.th = 0 ∧ (0 < wV ∧ ∃ j, j < wC ∧ (∀ i, i < j → hld (kAt K i) w) ∧ ¬ hld (kAt K j) w ∧ r = nI j) ∧ MRel st' V E K inp w wV wC) ∨ (st'.th = 1 ∧ (wV = 0) ∧ MRel st' V E K inp w wV wC) ∨ (st'.th = 2 ∧ (0 < wV ∧ ∀ i, i < wC → hld (kAt K i) w) ∧ MRel st' V E K inp w wV wC)))) 0 0 A := by
  refine Met.ofW (cc := b_M_first) (maxL := 2) (ret := (some .int)) (by decide) rfl ?_
  intro p e s m args below meth c s₁ B hml hv
  obtain ⟨rfl, hE, hA, hP, hD⟩ := hv
  have hx := B.exec
  have hb := B.bytes
  have hr := B.returns
  have ht : ∀ w ∈ TW, w.before _ s = true := fun w h => atoms_spec (ws := cw_M_first :: TW) B.pre w (List.mem_cons_of_mem _ h)
  have hown : s.vm.findClass R_M = some m.cls := findClass_of_methodNamed B.named
  have hlocks := B.notSynchronized
  have hK := hE.1
  have hS : va_S A s.heap s.heap [] := va_S.rf
  have hl := lv_entry ([.ref a.m]) (n := 2) (Nat.le_of_ble_eq_true rfl)
  rw [lg_entry_eq]
  generalize (lg_sl ([.ref a.m]) ++ List.replicate (2 - (lg_sl ([.ref a.m])).length) Slot.unset).toArray = ls at hl ⊢
  have hl : lv_has ls 2 [(0, .ref a.m)] := hl
  obtain ⟨i1, i2, i3, i4, i5, i6, i7, i8, i9⟩ := id hI
  have hsv := hM.2.2.2.2.2.1
  have sv1 : st.sv ≤ 1 := by rw [hsv]; split <;> omega
  have sv0 : st.sv = 0 ↔ wV = 0 := by rw [hsv]; split <;> omega
  have hkn := hM.2.2.2.1
  have hkc := hM.2.2.2.2.1
  have hwc := hM.2.2.2.2.2.2.2.2.1
  have h1 : ws[0]? = some (a.m, .inr (5, [.int (nI st.th), .ref a.aS, .ref a.aK, .ref a.aI, .int (nI st.ex), .ref a.aH, .ref a.aF, .ref a.aG, .int (nI st.va), .ref a.aR, .int (nI st.co), .ref a.aL, .ref a.aT, .ref a.aO, .ref a.aB, .ref a.aW, .int (nI st.sv), .int (nI st.kn), .int (nI st.kc)])) := by rw [hw]; rfl
  refine lv_aload_n hx hb d_M_first_0 rfl (lv_at hl 0 rfl) ?_
  refine lv_iconst (v := (nI 0)) hx hb d_M_first_1 (by decide) ?_
  refine va_put (D := xD G) (ci := 5) (v := .int (nI 0)) (ty := .int) (C := R_M) (T := F_M) (N := 19) hx hb ht in_M ft_M fo_M nm_M hown hK hP hD hS 0 h1 rfl 0 (by decide) (ht _ k_fl_M_50) (fun _ h9 => h9) rfl (by decide +kernel) rfl rfl (Nat.le_of_ble_eq_true rfl) d_M_first_2 (fun H locs hP hD hS => ?_)
  have hP : va_P (xD G) CL (ws.set 0 (a.m, .inr (5, [.int (nI 0), .ref a.aS, .ref a.aK, .ref a.aI, .int (nI st.ex), .ref a.aH, .ref a.aF, .ref a.aG, .int (nI st.va), .ref a.aR, .int (nI st.co), .ref a.aL, .ref a.aT, .ref a.aO, .ref a.aB, .ref a.aW, .int (nI st.sv), .int (nI st.kn), .int (nI st.kc)]))) H := hP
  have hD : va_D A (ws.set 0 (a.m, .inr (5, [.int (nI 0), .ref a.aS, .ref a.aK, .ref a.aI, .int (nI st.ex), .ref a.aH, .ref a.aF, .ref a.aG, .int (nI st.va), .ref a.aR, .int (nI st.co), .ref a.aL, .ref a.aT, .ref a.aO, .ref a.aB, .ref a.aW, .int (nI st.sv), .int (nI st.kn), .int (nI st.kc)]))) := hD
  obtain ⟨w2, e_w2⟩ : ∃ zz : va_W, zz = ws.set 0 (a.m, .inr (5, [.int (nI 0), .ref a.aS, .ref a.aK, .ref a.aI, .int (nI st.ex), .ref a.aH, .ref a.aF, .ref a.aG, .int (nI st.va), .ref a.aR, .int (nI st.co), .ref a.aL, .ref a.aT, .ref a.aO, .ref a.aB, .ref a.aW, .int (nI st.sv), .int (nI st.kn), .int (nI st.kc)])) := ⟨_, rfl⟩
  rw [← e_w2] at hP hD
  have h3 : w2[0]? = some (a.m, .inr (5, [.int (nI 0), .ref a.aS, .ref a.aK, .ref a.aI, .int (nI st.ex), .ref a.aH, .ref a.aF, .ref a.aG, .int (nI st.va), .ref a.aR, .int (nI st.co), .ref a.aL, .ref a.aT, .ref a.aO, .ref a.aB, .ref a.aW, .int (nI st.sv), .int (nI st.kn), .int (nI st.kc)])) := by rw [e_w2]; exact w_eq h1
  have E4 : w2 = mW G a (⟨0, st.ex, st.va, st.co, st.sv, st.kn, st.kc, st.S, st.Kd, st.In, st.Hw, st.Fr, st.Gn, st.R, st.L, st.T, st.O, st.B, st.W⟩ : MS) := by rw [e_w2, hw]; rfl
  have h5 : w2[0]? = some (a.m, .inr (5, [.int (nI 0), .ref a.aS, .ref a.aK, .ref a.aI, .int (nI st.ex), .ref a.aH, .ref a.aF, .ref a.aG, .int (nI st.va), .ref a.aR, .int (nI st.co), .ref a.aL, .ref a.aT, .ref a.aO, .ref a.aB, .ref a.aW, .int (nI st.sv), .int (nI st.kn), .int (nI st.kc)])) := by rw [E4]; rfl
  have h6 : w2[12]? = some (a.aW, aI G 60 (rI st.W)) := by rw [E4]; rfl
  refine lv_aload_n hx hb d_M_first_5 rfl (lv_at hl 0 rfl) ?_
  refine va_get (D := xD G) (ci := 5) (C := R_M) (T := F_M) (N := 19) hx hb ht in_M hown hK hP 0 h5 rfl 16 (by decide) (ht _ k_fl_M_135) (fun _ h9 => h9) rfl d_M_first_6 ?_
  refine x_if_ne hx hb st.sv rfl (by omega) (tgt := 18) d_M_first_9 (by decide) (fun c7 => ?_) (fun c7 => ?_)
  · refine lv_iconst (v := (nI 0)) hx hb d_M_first_18 (by decide) ?_
    refine lv_istore_n (lv' := [(1, .int (nI 0)), (0, .ref a.m)]) hx hb d_M_first_19 rfl hl (by decide) rfl (fun ls hl => ?_)
    have loop : ∀ (n i : Nat), i + n = st.kc → ∀ (H : Heap) (locs : List Loc) (ls : Array Slot), (va_P (xD G) CL w2 H) → (va_S A s.heap H locs) → (∀ i2, i2 < i → hld (kAt K i2) w) → lv_has ls 2 [(1, .int (nI i)), (0, .ref a.m)] → W p l e (headSpec (cw_M_first :: TW) { frames := 7, cells := 0, slots := 0, locals := 182 }).room s m ([.ref a.m] : List Value).toArray below meth c H locs 0 0 (MQ below (qI G A (fun r w9 => ∃ st' : MS, w9 = mW G a st' ∧ ((st'.th = 0 ∧ (0 < wV ∧ ∃ j, j < wC ∧ (∀ i, i < j → hld (kAt K i) w) ∧ ¬ hld (kAt K j) w ∧ r = nI j) ∧ MRel st' V E K inp w wV wC) ∨ (st'.th = 1 ∧ (wV = 0) ∧ MRel st' V E K inp w wV wC) ∨ (st'.th = 2 ∧ (0 < wV ∧ ∀ i, i < wC → hld (kAt K i) w) ∧ MRel st' V E K inp w wV wC)))) ([.ref a.m] : List Value).toArray s 0 0 A) (F0 m 20 ls []) := by
      intro n
      induction n with
      | zero =>
        intro i hi H locs ls hP hS hal hl
        refine lv_iload_n hx hb d_M_first_20 rfl (lv_at hl 0 rfl) ?_
        refine lv_aload_n hx hb d_M_first_21 rfl (lv_at hl 1 rfl) ?_
        refine va_get (D := xD G) (ci := 5) (C := R_M) (T := F_M) (N := 19) hx hb ht in_M hown hK hP 0 h5 rfl 18 (by decide) (ht _ k_fl_M_142) (fun _ h9 => h9) rfl d_M_first_22 ?_
        refine x_ge hx hb i st.kc rfl rfl (by omega) (by omega) (tgt := 48) d_M_first_25 (by decide) (fun c8 => ?_) (fun c8 => ?_)
        · have i0 : i = st.kc := by omega
          refine lv_aload_n hx hb d_M_first_48 rfl (lv_at hl 1 rfl) ?_
          refine lv_iconst (v := (nI 2)) hx hb d_M_first_49 (by decide) ?_
          refine x_calli (va_runV (As := [.int (nI 2)]) (rest := []) ⟨hx, hb, hml, hown, ht⟩ (c_M_raise l G A w2 a (⟨0, st.ex, st.va, st.co, st.sv, st.kn, st.kc, st.S, st.Kd, st.In, st.Hw, st.Fr, st.Gn, st.R, st.L, st.T, st.O, st.B, st.W⟩ : MS) E4 2) (cwV 1 ht (TW_V k_ml_M_117 k_im_M_raise k_se_M_raise k_in_M k_code_M_raise) rfl rfl rfl hv_M_raise ⟨Nat.le_of_ble_eq_true rfl, Nat.le_of_ble_eq_true rfl⟩) ⟨x_blind, va_recv hK hP rfl h5, x_pre hE hA hS hP hD⟩ rfl rfl hl.1 rfl (lv_room (Nat.le_of_ble_eq_true rfl)) d_M_first_50 ⟨Nat.le_of_ble_eq_true rfl, Nat.le_of_ble_eq_true rfl⟩) hS (fun r11 w10 H locs q9 hP hD hS => ?_)
          obtain ⟨rfl, q9⟩ := q9
          have E12 : w10 = mW G a (⟨2, st.ex, st.va, st.co, st.sv, st.kn, st.kc, st.S, st.Kd, st.In, st.Hw, st.Fr, st.Gn, st.R, st.L, st.T, st.O, st.B, st.W⟩ : MS) := q9
          have h13 : w10[0]? = some (a.m, .inr (5, [.int (nI 2), .ref a.aS, .ref a.aK, .ref a.aI, .int (nI st.ex), .ref a.aH, .ref a.aF, .ref a.aG, .int (nI st.va), .ref a.aR, .int (nI st.co), .ref a.aL, .ref a.aT, .ref a.aO, .ref a.aB, .ref a.aW, .int (nI st.sv), .int (nI st.kn), .int (nI st.kc)])) := by rw [E12]; rfl
          exact x_iret hx hb hr hlocks hS hP hD (Nat.le_of_ble_eq_true rfl) (Nat.le_of_ble_eq_true rfl) d_M_first_53 (⟨_, E12, Or.inr (Or.inr (⟨rfl, ⟨by omega, by rw [← hkc, ← i0]; exact hal⟩, hM⟩))⟩)
        · exact False.elim (by omega)
      | succ n ih =>
        intro i hi H locs ls hP hS hal hl
        refine lv_iload_n hx hb d_M_first_20 rfl (lv_at hl 0 rfl) ?_
        refine lv_aload_n hx hb d_M_first_21 rfl (lv_at hl 1 rfl) ?_
        refine va_get (D := xD G) (ci := 5) (C := R_M) (T := F_M) (N := 19) hx hb ht in_M hown hK hP 0 h5 rfl 18 (by decide) (ht _ k_fl_M_142) (fun _ h9 => h9) rfl d_M_first_22 ?_
        refine x_ge hx hb i st.kc rfl rfl (by omega) (by omega) (tgt := 48) d_M_first_25 (by decide) (fun c14 => ?_) (fun c14 => ?_)
        · exact False.elim (by omega)
        · refine lv_aload_n hx hb d_M_first_28 rfl (lv_at hl 1 rfl) ?_
          refine lv_iload_n hx hb d_M_first_29 rfl (lv_at hl 0 rfl) ?_
          refine lv_aload_n hx hb d_M_first_30 rfl (lv_at hl 1 rfl) ?_
          refine va_get (D := xD G) (ci := 5) (C := R_M) (T := F_M) (N := 19) hx hb ht in_M hown hK hP 0 h5 rfl 15 (by decide) (ht _ k_fl_M_47) (fun _ h9 => h9) rfl d_M_first_31 ?_
          refine x_calli (va_runV (As := [.int (nI i), .ref a.aW]) (rest := []) ⟨hx, hb, hml, hown, ht⟩ (c_M_holds l G A w2 a (⟨0, st.ex, st.va, st.co, st.sv, st.kn, st.kc, st.S, st.Kd, st.In, st.Hw, st.Fr, st.Gn, st.R, st.L, st.T, st.O, st.B, st.W⟩ : MS) E4 12 a.aW st.W h6 (by decide) i (kAt K i) (by omega) hM.2.2.2.2.2.2.2.1 (fun t j h1 h2 => ⟨(hM.1.2 i t j (by omega) h1 h2).1, (hM.1.2 i t j (by omega) h1 h2).2.1⟩)) (cwV 2 ht (TW_V k_ml_M_149 k_im_M_holds k_se_M_holds k_in_M k_code_M_holds) rfl rfl rfl hv_M_holds ⟨Nat.le_of_ble_eq_true rfl, Nat.le_of_ble_eq_true rfl⟩) ⟨x_blind, va_recv hK hP rfl h5, x_pre hE hA hS hP hD⟩ rfl rfl hl.1 rfl (lv_room (Nat.le_of_ble_eq_true rfl)) d_M_first_34 ⟨Nat.le_of_ble_eq_true rfl, Nat.le_of_ble_eq_true rfl⟩) hS (fun r17 w16 H locs q15 hP hD hS => ?_)
          obtain ⟨rfl, ⟨rfl, hq⟩ | ⟨rfl, hq⟩⟩ := q15
          · refine x_if_ne hx hb 1 rfl (by decide) (tgt := 42) d_M_first_37 (by decide) (fun c18 => ?_) (fun c18 => ?_)
            rotate_left
            · exact False.elim (by omega)
            have hq : hld (kAt K i) w := (hM.2.2.2.hq (by omega)).mp hq
            refine lv_iinc (v := nI (i + 1)) (lv' := [(1, .int (nI (i + 1))), (0, .ref a.m)]) hx hb d_M_first_42 hl (k := 0) rfl (n_inc _) (by decide) rfl (fun ls hl => ?_)
            refine lv_goto (tgt := 20) hx hb d_M_first_45 (by decide) ?_
            exact ih (i + 1) (by omega) H locs ls hP hS (fun i2 h2 => by rcases Nat.lt_succ_iff_lt_or_eq.mp h2 with h3 | rfl; exact hal i2 h3; exact hq) ((lv_sub hl [0, 1] rfl))
          · refine x_if_ne hx hb 0 rfl (by decide) (tgt := 42) d_M_first_37 (by decide) (fun c19 => ?_) (fun c19 => ?_)
            · exact False.elim (by omega)
            have hq : ¬ hld (kAt K i) w := fun q => hq ((hM.2.2.2.hq (by omega)).mpr q)
            refine lv_iload_n hx hb d_M_first_40 rfl (lv_at hl 0 rfl) ?_
            exact x_iret hx hb hr hlocks hS hP hD (Nat.le_of_ble_eq_true rfl) (Nat.le_of_ble_eq_true rfl) d_M_first_41 (⟨_, E4, Or.inl ⟨rfl, ⟨by omega, i, by omega, hal, hq, rfl⟩, hM⟩⟩)
    exact loop st.kc 0 (by omega) H locs ls hP hS (fun _ q => absurd q (Nat.not_lt_zero _)) (lv_sub hl [0, 1] rfl)
  · refine lv_aload_n hx hb d_M_first_12 rfl (lv_at hl 0 rfl) ?_
    refine lv_iconst (v := (nI 1)) hx hb d_M_first_13 (by decide) ?_
    refine x_calli (va_runV (As := [.int (nI 1)]) (rest := []) ⟨hx, hb, hml, hown, ht⟩ (c_M_raise l G A w2 a (⟨0, st.ex, st.va, st.co, st.sv, st.kn, st.kc, st.S, st.Kd, st.In, st.Hw, st.Fr, st.Gn, st.R, st.L, st.T, st.O, st.B, st.W⟩ : MS) E4 1) (cwV 1 ht (TW_V k_ml_M_117 k_im_M_raise k_se_M_raise k_in_M k_code_M_raise) rfl rfl rfl hv_M_raise ⟨Nat.le_of_ble_eq_true rfl, Nat.le_of_ble_eq_true rfl⟩) ⟨x_blind, va_recv hK hP rfl h5, x_pre hE hA hS hP hD⟩ rfl rfl hl.1 rfl (lv_room (Nat.le_of_ble_eq_true rfl)) d_M_first_14 ⟨Nat.le_of_ble_eq_true rfl, Nat.le_of_ble_eq_true rfl⟩) hS (fun r22 w21 H locs q20 hP hD hS => ?_)
    obtain ⟨rfl, q20⟩ := q20
    have E23 : w21 = mW G a (⟨1, st.ex, st.va, st.co, st.sv, st.kn, st.kc, st.S, st.Kd, st.In, st.Hw, st.Fr, st.Gn, st.R, st.L, st.T, st.O, st.B, st.W⟩ : MS) := q20
    have h24 : w21[0]? = some (a.m, .inr (5, [.int (nI 1), .ref a.aS, .ref a.aK, .ref a.aI, .int (nI st.ex), .ref a.aH, .ref a.aF, .ref a.aG, .int (nI st.va), .ref a.aR, .int (nI st.co), .ref a.aL, .ref a.aT, .ref a.aO, .ref a.aB, .ref a.aW, .int (nI st.sv), .int (nI st.kn), .int (nI st.kc)])) := by rw [E23]; rfl
    exact x_iret hx hb hr hlocks hS hP hD (Nat.le_of_ble_eq_true rfl) (Nat.le_of_ble_eq_true rfl) d_M_first_17 (⟨_, E23, Or.inr (Or.inl ⟨rfl, sv0.mp c7, hM⟩)⟩)

set_option maxHeartbeats 4000000 in
set_option maxRecDepth 100000 in
theorem m_value (l : Launch) (G : xG) (A : Nat → Prop) (ws : va_W) (a : MA) (st : MS) (hw : ws = mW G a st) (V : List VV) (E : List EE) (K : List KK) (inp : Nat) (w : Nat → Nat) (wV wC : Nat) (hM : MRel st V E K inp w wV wC) (hI : okI V E K inp wV wC) (x1 : Int32) : Met l y_M_value (cw_M_value :: TW) { frames := 7, cells := 0, slots := 0, locals := 182 } (va_Pc [.ref a.m, .int x1] (x_P G A ws)) (qI G A (fun r w9 => ∃ st' : MS, w9 = mW G a st' ∧ ((st'.th = 0 ∧ (∃ j, j < E.length ∧ x1 = nI j ∧ 0 < wV ∧ lastV (sE E j) 59 < wV ∧ r = nI (vl (sE E j) w)) ∧ MRel st' V E K inp w wV wC) ∨ (st'.th = 1 ∧ (¬ md E.length x1) ∧ MRel st' V E K inp w wV wC) ∨ (st'.th = 2 ∧ (∃ j, j < E.length ∧ x1 = nI j ∧ ¬ (0 < wV ∧ lastV (sE E j) 59 < wV)) ∧ MRel st' V E K inp w wV wC)))) 0 0 A := by
  refine Met.ofW (cc := b_M_value) (maxL := 4) (ret := (some .int)) (by decide) rfl ?_
  intro p e s m args below meth c s₁ B hml hv
  obtain ⟨rfl, hE, hA, hP, hD⟩ := hv
  have hx := B.exec
  have hb := B.bytes
  have hr := B.returns
  have ht : ∀ w ∈ TW, w.before _ s = true := fun w h => atoms_spec (ws := cw_M_value :: TW) B.pre w (List.mem_cons_of_mem _ h)
  have hown : s.vm.findClass R_M = some m.cls := findClass_of_methodNamed B.named
  have hlocks := B.notSynchronized
  have hK := hE.1
  have hS : va_S A s.heap s.heap [] := va_S.rf
  have hl := lv_entry ([.ref a.m, .int x1]) (n := 4) (Nat.le_of_ble_eq_true rfl)
  rw [lg_entry_eq]
  generalize (lg_sl ([.ref a.m, .int x1]) ++ List.replicate (4 - (lg_sl ([.ref a.m, .int x1])).length) Slot.unset).toArray = ls at hl ⊢
  have hl : lv_has ls 4 [(0, .ref a.m), (1, .int x1)] := hl
  obtain ⟨i1, i2, i3, i4, i5, i6, i7, i8, i9⟩ := id hI
  have hco := hM.1.1
  have hva := hM.2.1.1
  have hex := hM.2.2.1.1
  have hS9 : ∀ e9 j, e9 < E.length → j < 60 → st.S (60 * e9 + j) = sE E e9 j := fun e9 j h1 h2 => (hM.2.2.1.2.1 e9 j h1 h2).1
  have hS8 : ∀ e9 j, e9 < E.length → j < 60 → sE E e9 j < 97 := fun e9 j h1 h2 => (hM.2.2.1.2.1 e9 j h1 h2).2.1
  have hS6 : ∀ e9, e9 < E.length → ∀ j, j < 60 → st.S (60 * e9 + j) < 97 := fun e9 h1 j h2 => by rw [hS9 e9 j h1 h2]; exact hS8 e9 j h1 h2
  have hS7 : ∀ e9 j, e9 < E.length → V.length ≤ j → j < 60 → sE E e9 j = 0 := fun e9 j h1 h3 h2 => (hM.2.2.1.2.1 e9 j h1 h2).2.2 h3
  have hsv := hM.2.2.2.2.2.1
  have sv1 : st.sv ≤ 1 := by rw [hsv]; split <;> omega
  have sv0 : st.sv = 0 ↔ wV = 0 := by rw [hsv]; split <;> omega
  have hkn := hM.2.2.2.1
  have hkc := hM.2.2.2.2.1
  have z4 := hM.2.2.2.2.2.2.1
  have z5 := hM.2.2.2.2.2.2.2.1
  have h1 : ws[0]? = some (a.m, .inr (5, [.int (nI st.th), .ref a.aS, .ref a.aK, .ref a.aI, .int (nI st.ex), .ref a.aH, .ref a.aF, .ref a.aG, .int (nI st.va), .ref a.aR, .int (nI st.co), .ref a.aL, .ref a.aT, .ref a.aO, .ref a.aB, .ref a.aW, .int (nI st.sv), .int (nI st.kn), .int (nI st.kc)])) := by rw [hw]; rfl
  refine lv_aload_n hx hb d_M_value_0 rfl (lv_at hl 0 rfl) ?_
  refine lv_iconst (v := (nI 0)) hx hb d_M_value_1 (by decide) ?_
  refine va_put (D := xD G) (ci := 5) (v := .int (nI 0)) (ty := .int) (C := R_M) (T := F_M) (N := 19) hx hb ht in_M ft_M fo_M nm_M hown hK hP hD hS 0 h1 rfl 0 (by decide) (ht _ k_fl_M_50) (fun _ h9 => h9) rfl (by decide +kernel) rfl rfl (Nat.le_of_ble_eq_true rfl) d_M_value_2 (fun H locs hP hD hS => ?_)
  have hP : va_P (xD G) CL (ws.set 0 (a.m, .inr (5, [.int (nI 0), .ref a.aS, .ref a.aK, .ref a.aI, .int (nI st.ex), .ref a.aH, .ref a.aF, .ref a.aG, .int (nI st.va), .ref a.aR, .int (nI st.co), .ref a.aL, .ref a.aT, .ref a.aO, .ref a.aB, .ref a.aW, .int (nI st.sv), .int (nI st.kn), .int (nI st.kc)]))) H := hP
  have hD : va_D A (ws.set 0 (a.m, .inr (5, [.int (nI 0), .ref a.aS, .ref a.aK, .ref a.aI, .int (nI st.ex), .ref a.aH, .ref a.aF, .ref a.aG, .int (nI st.va), .ref a.aR, .int (nI st.co), .ref a.aL, .ref a.aT, .ref a.aO, .ref a.aB, .ref a.aW, .int (nI st.sv), .int (nI st.kn), .int (nI st.kc)]))) := hD
  obtain ⟨w2, e_w2⟩ : ∃ zz : va_W, zz = ws.set 0 (a.m, .inr (5, [.int (nI 0), .ref a.aS, .ref a.aK, .ref a.aI, .int (nI st.ex), .ref a.aH, .ref a.aF, .ref a.aG, .int (nI st.va), .ref a.aR, .int (nI st.co), .ref a.aL, .ref a.aT, .ref a.aO, .ref a.aB, .ref a.aW, .int (nI st.sv), .int (nI st.kn), .int (nI st.kc)])) := ⟨_, rfl⟩
  rw [← e_w2] at hP hD
  have h3 : w2[0]? = some (a.m, .inr (5, [.int (nI 0), .ref a.aS, .ref a.aK, .ref a.aI, .int (nI st.ex), .ref a.aH, .ref a.aF, .ref a.aG, .int (nI st.va), .ref a.aR, .int (nI st.co), .ref a.aL, .ref a.aT, .ref a.aO, .ref a.aB, .ref a.aW, .int (nI st.sv), .int (nI st.kn), .int (nI st.kc)])) := by rw [e_w2]; exact w_eq h1
  have E4 : w2 = mW G a (⟨0, st.ex, st.va, st.co, st.sv, st.kn, st.kc, st.S, st.Kd, st.In, st.Hw, st.Fr, st.Gn, st.R, st.L, st.T, st.O, st.B, st.W⟩ : MS) := by rw [e_w2, hw]; rfl
  have h5 : w2[0]? = some (a.m, .inr (5, [.int (nI 0), .ref a.aS, .ref a.aK, .ref a.aI, .int (nI st.ex), .ref a.aH, .ref a.aF, .ref a.aG, .int (nI st.va), .ref a.aR, .int (nI st.co), .ref a.aL, .ref a.aT, .ref a.aO, .ref a.aB, .ref a.aW, .int (nI st.sv), .int (nI st.kn), .int (nI st.kc)])) := by rw [E4]; rfl
  have h6 : w2[1]? = some (a.aS, aI G 3600 (rI st.S)) := by rw [E4]; rfl
  have h7 : w2[12]? = some (a.aW, aI G 60 (rI st.W)) := by rw [E4]; rfl
  refine lv_aload_n hx hb d_M_value_5 rfl (lv_at hl 0 rfl) ?_
  refine lv_iload_n hx hb d_M_value_6 rfl (lv_at hl 1 rfl) ?_
  refine x_calli (va_runV (As := [.int x1]) (rest := []) ⟨hx, hb, hml, hown, ht⟩ (c_M_made l G A w2 a (⟨0, st.ex, st.va, st.co, st.sv, st.kn, st.kc, st.S, st.Kd, st.In, st.Hw, st.Fr, st.Gn, st.R, st.L, st.T, st.O, st.B, st.W⟩ : MS) E4 (show st.ex ≤ 60 by omega) x1) (cwV 1 ht (TW_V k_ml_M_86 k_im_M_made k_se_M_made k_in_M k_code_M_made) rfl rfl rfl hv_M_made ⟨Nat.le_of_ble_eq_true rfl, Nat.le_of_ble_eq_true rfl⟩) ⟨x_blind, va_recv hK hP rfl h5, x_pre hE hA hS hP hD⟩ rfl rfl hl.1 rfl (lv_room (Nat.le_of_ble_eq_true rfl)) d_M_value_7 ⟨Nat.le_of_ble_eq_true rfl, Nat.le_of_ble_eq_true rfl⟩) hS (fun r10 w9 H locs q8 hP hD hS => ?_)
  obtain ⟨rfl, ⟨rfl, m11⟩ | ⟨rfl, m11⟩⟩ := q8
  · have m11 : md E.length x1 := by rw [← hex]; exact m11
    refine x_if_ne hx hb 1 rfl (by decide) (tgt := 19) d_M_value_10 (by decide) (fun c12 => ?_) (fun c12 => ?_)
    rotate_left
    · exact False.elim (by omega)
    obtain ⟨ja, ga, rfl⟩ := id m11
    refine lv_aload_n hx hb d_M_value_19 rfl (lv_at hl 0 rfl) ?_
    refine va_get (D := xD G) (ci := 5) (C := R_M) (T := F_M) (N := 19) hx hb ht in_M hown hK hP 0 h5 rfl 16 (by decide) (ht _ k_fl_M_135) (fun _ h9 => h9) rfl d_M_value_20 ?_
    refine x_if_ne hx hb st.sv rfl (by omega) (tgt := 32) d_M_value_23 (by decide) (fun c13 => ?_) (fun c13 => ?_)
    · refine lv_iconst (v := (nI 0)) hx hb d_M_value_32 (by decide) ?_
      refine lv_istore_n (lv' := [(2, .int (nI 0)), (0, .ref a.m), (1, .int (nI ja))]) hx hb d_M_value_33 rfl hl (by decide) rfl (fun ls hl => ?_)
      refine lv_iconst (v := (nI 0)) hx hb d_M_value_34 (by decide) ?_
      refine lv_istore_n (lv' := [(3, .int (nI 0)), (2, .int (nI 0)), (0, .ref a.m), (1, .int (nI ja))]) hx hb d_M_value_35 rfl hl (by decide) rfl (fun ls hl => ?_)
      have loop : ∀ (n i : Nat), i + n = 60 → ∀ (H : Heap) (locs : List Loc) (ls : Array Slot), (va_P (xD G) CL w2 H) → (va_S A s.heap H locs) → (∀ j, j < i → wV ≤ j → sE E ja j = 0) → lv_has ls 4 [(3, .int (nI i)), (2, .int (nI (sm (sE E ja) st.W i))), (0, .ref a.m), (1, .int (nI ja))] → W p l e (headSpec (cw_M_value :: TW) { frames := 7, cells := 0, slots := 0, locals := 182 }).room s m ([.ref a.m, .int (nI ja)] : List Value).toArray below meth c H locs 0 0 (MQ below (qI G A (fun r w9 => ∃ st' : MS, w9 = mW G a st' ∧ ((st'.th = 0 ∧ (∃ j, j < E.length ∧ (nI ja) = nI j ∧ 0 < wV ∧ lastV (sE E j) 59 < wV ∧ r = nI (vl (sE E j) w)) ∧ MRel st' V E K inp w wV wC) ∨ (st'.th = 1 ∧ (¬ md E.length (nI ja)) ∧ MRel st' V E K inp w wV wC) ∨ (st'.th = 2 ∧ (∃ j, j < E.length ∧ (nI ja) = nI j ∧ ¬ (0 < wV ∧ lastV (sE E j) 59 < wV)) ∧ MRel st' V E K inp w wV wC)))) ([.ref a.m, .int (nI ja)] : List Value).toArray s 0 0 A) (F0 m 36 ls []) := by
        intro n
        induction n with
        | zero =>
          intro i hi H locs ls hP hS hz hl
          refine lv_iload_n hx hb d_M_value_36 rfl (lv_at hl 0 rfl) ?_
          refine lv_bipush (v := (nI 60)) hx hb d_M_value_37 (by decide) ?_
          refine x_ge hx hb i 60 rfl rfl (by omega) (by omega) (tgt := 97) d_M_value_39 (by decide) (fun c14 => ?_) (fun c14 => ?_)
          · have i0 : i = 60 := by omega
            have sl := sm_le (f := sE E ja) (fun j hj => hS8 ja j ga hj) z5 i (by omega)
            refine lv_iload_n hx hb d_M_value_97 rfl (lv_at hl 1 rfl) ?_
            refine lv_bipush (v := (nI 97)) hx hb d_M_value_98 (by decide) ?_
            refine lv_irem hx hb d_M_value_100 (by decide) ?_
            refine x_top (nI ((sm (sE E ja) st.W i) % 97)) (pk_rem (by omega) (by omega) (by omega)) ?_
            exact x_iret hx hb hr hlocks hS hP hD (Nat.le_of_ble_eq_true rfl) (Nat.le_of_ble_eq_true rfl) d_M_value_101 (⟨_, E4, Or.inl ⟨rfl, ⟨ja, ga, rfl, by omega, lastV_lt (by omega) 59 (fun j h1 h2 => hz j (by omega) h1), by rw [i0]; show nI (vl (sE E ja) st.W) = _; rw [vl_c (fun _ _ => rfl) (fun j hj q => z4 j (by by_cases q2 : j < wV; exact q2; exact absurd (hz j (by omega) (by omega)) q))]⟩, hM⟩⟩)
          · exact False.elim (by omega)
        | succ n ih =>
          intro i hi H locs ls hP hS hz hl
          refine lv_iload_n hx hb d_M_value_36 rfl (lv_at hl 0 rfl) ?_
          refine lv_bipush (v := (nI 60)) hx hb d_M_value_37 (by decide) ?_
          refine x_ge hx hb i 60 rfl rfl (by omega) (by omega) (tgt := 97) d_M_value_39 (by decide) (fun c15 => ?_) (fun c15 => ?_)
          · exact False.elim (by omega)
          · refine lv_iload_n hx hb d_M_value_42 rfl (lv_at hl 0 rfl) ?_
            refine lv_aload_n hx hb d_M_value_43 rfl (lv_at hl 2 rfl) ?_
            refine va_get (D := xD G) (ci := 5) (C := R_M) (T := F_M) (N := 19) hx hb ht in_M hown hK hP 0 h5 rfl 17 (by decide) (ht _ k_fl_M_139) (fun _ h9 => h9) rfl d_M_value_44 ?_
            refine x_lt hx hb i st.kn rfl rfl (by omega) (by omega) (tgt := 70) d_M_value_47 (by decide) (fun c16 => ?_) (fun c16 => ?_)
            · refine lv_iload_n hx hb d_M_value_70 rfl (lv_at hl 1 rfl) ?_
              refine lv_aload_n hx hb d_M_value_71 rfl (lv_at hl 2 rfl) ?_
              refine va_get (D := xD G) (ci := 5) (C := R_M) (T := F_M) (N := 19) hx hb ht in_M hown hK hP 0 h5 rfl 1 (by decide) (ht _ k_fl_M_7) (fun _ h9 => h9) rfl d_M_value_72 ?_
              refine lv_bipush (v := (nI 60)) hx hb d_M_value_75 (by decide) ?_
              refine lv_iload_n hx hb d_M_value_77 rfl (lv_at hl 3 rfl) ?_
              refine lv_imul hx hb d_M_value_78 ?_
              refine x_top (nI (60 * ja)) (pk_mul _ _) ?_
              refine lv_iload_n hx hb d_M_value_79 rfl (lv_at hl 0 rfl) ?_
              refine lv_iadd hx hb d_M_value_80 ?_
              refine x_top (nI ((60 * ja) + i)) (nI_add _ _) ?_
              refine x_iald hx hb hK hP h6 ((60 * ja) + i) rfl (by omega) (by omega) d_M_value_81 ?_
              refine x_top (nI (sE E ja i)) (by rw [← hS9 ja i ga (by omega)]; rfl) ?_
              refine lv_aload_n hx hb d_M_value_82 rfl (lv_at hl 2 rfl) ?_
              refine va_get (D := xD G) (ci := 5) (C := R_M) (T := F_M) (N := 19) hx hb ht in_M hown hK hP 0 h5 rfl 15 (by decide) (ht _ k_fl_M_47) (fun _ h9 => h9) rfl d_M_value_83 ?_
              refine lv_iload_n hx hb d_M_value_86 rfl (lv_at hl 0 rfl) ?_
              refine x_iald hx hb hK hP h7 i rfl (by omega) (by omega) d_M_value_87 ?_
              refine x_top (nI (st.W i)) (rfl) ?_
              refine lv_imul hx hb d_M_value_88 ?_
              refine x_top (nI ((sE E ja i) * (st.W i))) (pk_mul _ _) ?_
              refine lv_iadd hx hb d_M_value_89 ?_
              refine x_top (nI ((sm (sE E ja) st.W i) + ((sE E ja i) * (st.W i)))) (nI_add _ _) ?_
              refine lv_istore_n (lv' := [(2, .int (nI ((sm (sE E ja) st.W i) + ((sE E ja i) * (st.W i))))), (3, .int (nI i)), (0, .ref a.m), (1, .int (nI ja))]) hx hb d_M_value_90 rfl hl (by decide) rfl (fun ls hl => ?_)
              have e9 : sm (sE E ja) st.W (i + 1) = sm (sE E ja) st.W i + sE E ja i * st.W i := rfl
              refine lv_iinc (v := nI (i + 1)) (lv' := [(3, .int (nI (i + 1))), (2, .int (nI ((sm (sE E ja) st.W i) + ((sE E ja i) * (st.W i))))), (0, .ref a.m), (1, .int (nI ja))]) hx hb d_M_value_91 hl (k := 1) rfl (n_inc _) (by decide) rfl (fun ls hl => ?_)
              refine lv_goto (tgt := 36) hx hb d_M_value_94 (by decide) ?_
              exact ih (i + 1) (by omega) H locs ls hP hS (fun j h1 h2 => by by_cases q : j = i; subst q; exact absurd h2 (by omega); exact hz j (by omega) h2) (by rw [e9]; exact (lv_sub hl [0, 1, 2, 3] rfl))
            · refine lv_aload_n hx hb d_M_value_50 rfl (lv_at hl 2 rfl) ?_
              refine va_get (D := xD G) (ci := 5) (C := R_M) (T := F_M) (N := 19) hx hb ht in_M hown hK hP 0 h5 rfl 1 (by decide) (ht _ k_fl_M_7) (fun _ h9 => h9) rfl d_M_value_51 ?_
              refine lv_bipush (v := (nI 60)) hx hb d_M_value_54 (by decide) ?_
              refine lv_iload_n hx hb d_M_value_56 rfl (lv_at hl 3 rfl) ?_
              refine lv_imul hx hb d_M_value_57 ?_
              refine x_top (nI (60 * ja)) (pk_mul _ _) ?_
              refine lv_iload_n hx hb d_M_value_58 rfl (lv_at hl 0 rfl) ?_
              refine lv_iadd hx hb d_M_value_59 ?_
              refine x_top (nI ((60 * ja) + i)) (nI_add _ _) ?_
              refine x_iald hx hb hK hP h6 ((60 * ja) + i) rfl (by omega) (by omega) d_M_value_60 ?_
              refine x_top (nI (sE E ja i)) (by rw [← hS9 ja i ga (by omega)]; rfl) ?_
              have b8 := hS8 ja i ga (by omega)
              refine x_if_eq hx hb (sE E ja i) rfl (by omega) (tgt := 70) d_M_value_61 (by decide) (fun c17 => ?_) (fun c17 => ?_)
              · refine lv_iload_n hx hb d_M_value_70 rfl (lv_at hl 1 rfl) ?_
                refine lv_aload_n hx hb d_M_value_71 rfl (lv_at hl 2 rfl) ?_
                refine va_get (D := xD G) (ci := 5) (C := R_M) (T := F_M) (N := 19) hx hb ht in_M hown hK hP 0 h5 rfl 1 (by decide) (ht _ k_fl_M_7) (fun _ h9 => h9) rfl d_M_value_72 ?_
                refine lv_bipush (v := (nI 60)) hx hb d_M_value_75 (by decide) ?_
                refine lv_iload_n hx hb d_M_value_77 rfl (lv_at hl 3 rfl) ?_
                refine lv_imul hx hb d_M_value_78 ?_
                refine x_top (nI (60 * ja)) (pk_mul _ _) ?_
                refine lv_iload_n hx hb d_M_value_79 rfl (lv_at hl 0 rfl) ?_
                refine lv_iadd hx hb d_M_value_80 ?_
                refine x_top (nI ((60 * ja) + i)) (nI_add _ _) ?_
                refine x_iald hx hb hK hP h6 ((60 * ja) + i) rfl (by omega) (by omega) d_M_value_81 ?_
                refine x_top (nI (sE E ja i)) (by rw [← hS9 ja i ga (by omega)]; rfl) ?_
                refine lv_aload_n hx hb d_M_value_82 rfl (lv_at hl 2 rfl) ?_
                refine va_get (D := xD G) (ci := 5) (C := R_M) (T := F_M) (N := 19) hx hb ht in_M hown hK hP 0 h5 rfl 15 (by decide) (ht _ k_fl_M_47) (fun _ h9 => h9) rfl d_M_value_83 ?_
                refine lv_iload_n hx hb d_M_value_86 rfl (lv_at hl 0 rfl) ?_
                refine x_iald hx hb hK hP h7 i rfl (by omega) (by omega) d_M_value_87 ?_
                refine x_top (nI (st.W i)) (rfl) ?_
                refine lv_imul hx hb d_M_value_88 ?_
                refine x_top (nI ((sE E ja i) * (st.W i))) (pk_mul _ _) ?_
                refine lv_iadd hx hb d_M_value_89 ?_
                refine x_top (nI ((sm (sE E ja) st.W i) + ((sE E ja i) * (st.W i)))) (nI_add _ _) ?_
                refine lv_istore_n (lv' := [(2, .int (nI ((sm (sE E ja) st.W i) + ((sE E ja i) * (st.W i))))), (3, .int (nI i)), (0, .ref a.m), (1, .int (nI ja))]) hx hb d_M_value_90 rfl hl (by decide) rfl (fun ls hl => ?_)
                have e9 : sm (sE E ja) st.W (i + 1) = sm (sE E ja) st.W i + sE E ja i * st.W i := rfl
                refine lv_iinc (v := nI (i + 1)) (lv' := [(3, .int (nI (i + 1))), (2, .int (nI ((sm (sE E ja) st.W i) + ((sE E ja i) * (st.W i))))), (0, .ref a.m), (1, .int (nI ja))]) hx hb d_M_value_91 hl (k := 1) rfl (n_inc _) (by decide) rfl (fun ls hl => ?_)
                refine lv_goto (tgt := 36) hx hb d_M_value_94 (by decide) ?_
                exact ih (i + 1) (by omega) H locs ls hP hS (fun j h1 h2 => by by_cases q : j = i; subst q; exact c17; exact hz j (by omega) h2) (by rw [e9]; exact (lv_sub hl [0, 1, 2, 3] rfl))
              · refine lv_aload_n hx hb d_M_value_64 rfl (lv_at hl 2 rfl) ?_
                refine lv_iconst (v := (nI 2)) hx hb d_M_value_65 (by decide) ?_
                refine x_calli (va_runV (As := [.int (nI 2)]) (rest := []) ⟨hx, hb, hml, hown, ht⟩ (c_M_raise l G A w2 a (⟨0, st.ex, st.va, st.co, st.sv, st.kn, st.kc, st.S, st.Kd, st.In, st.Hw, st.Fr, st.Gn, st.R, st.L, st.T, st.O, st.B, st.W⟩ : MS) E4 2) (cwV 1 ht (TW_V k_ml_M_117 k_im_M_raise k_se_M_raise k_in_M k_code_M_raise) rfl rfl rfl hv_M_raise ⟨Nat.le_of_ble_eq_true rfl, Nat.le_of_ble_eq_true rfl⟩) ⟨x_blind, va_recv hK hP rfl h5, x_pre hE hA hS hP hD⟩ rfl rfl hl.1 rfl (lv_room (Nat.le_of_ble_eq_true rfl)) d_M_value_66 ⟨Nat.le_of_ble_eq_true rfl, Nat.le_of_ble_eq_true rfl⟩) hS (fun r20 w19 H locs q18 hP hD hS => ?_)
                obtain ⟨rfl, q18⟩ := q18
                have E21 : w19 = mW G a (⟨2, st.ex, st.va, st.co, st.sv, st.kn, st.kc, st.S, st.Kd, st.In, st.Hw, st.Fr, st.Gn, st.R, st.L, st.T, st.O, st.B, st.W⟩ : MS) := q18
                have h22 : w19[0]? = some (a.m, .inr (5, [.int (nI 2), .ref a.aS, .ref a.aK, .ref a.aI, .int (nI st.ex), .ref a.aH, .ref a.aF, .ref a.aG, .int (nI st.va), .ref a.aR, .int (nI st.co), .ref a.aL, .ref a.aT, .ref a.aO, .ref a.aB, .ref a.aW, .int (nI st.sv), .int (nI st.kn), .int (nI st.kc)])) := by rw [E21]; rfl
                exact x_iret hx hb hr hlocks hS hP hD (Nat.le_of_ble_eq_true rfl) (Nat.le_of_ble_eq_true rfl) d_M_value_69 (⟨_, E21, Or.inr (Or.inr (⟨rfl, ⟨ja, ga, rfl, fun q => by have := lastV_ge (j := i) (by omega) c17 59 (by omega); omega⟩, hM⟩))⟩)
      exact loop 60 0 (by omega) H locs ls hP hS (fun _ q => absurd q (Nat.not_lt_zero _)) (lv_sub hl [0, 1, 2, 3] rfl)
    · refine lv_aload_n hx hb d_M_value_26 rfl (lv_at hl 0 rfl) ?_
      refine lv_iconst (v := (nI 2)) hx hb d_M_value_27 (by decide) ?_
      refine x_calli (va_runV (As := [.int (nI 2)]) (rest := []) ⟨hx, hb, hml, hown, ht⟩ (c_M_raise l G A w2 a (⟨0, st.ex, st.va, st.co, st.sv, st.kn, st.kc, st.S, st.Kd, st.In, st.Hw, st.Fr, st.Gn, st.R, st.L, st.T, st.O, st.B, st.W⟩ : MS) E4 2) (cwV 1 ht (TW_V k_ml_M_117 k_im_M_raise k_se_M_raise k_in_M k_code_M_raise) rfl rfl rfl hv_M_raise ⟨Nat.le_of_ble_eq_true rfl, Nat.le_of_ble_eq_true rfl⟩) ⟨x_blind, va_recv hK hP rfl h5, x_pre hE hA hS hP hD⟩ rfl rfl hl.1 rfl (lv_room (Nat.le_of_ble_eq_true rfl)) d_M_value_28 ⟨Nat.le_of_ble_eq_true rfl, Nat.le_of_ble_eq_true rfl⟩) hS (fun r25 w24 H locs q23 hP hD hS => ?_)
      obtain ⟨rfl, q23⟩ := q23
      have E26 : w24 = mW G a (⟨2, st.ex, st.va, st.co, st.sv, st.kn, st.kc, st.S, st.Kd, st.In, st.Hw, st.Fr, st.Gn, st.R, st.L, st.T, st.O, st.B, st.W⟩ : MS) := q23
      have h27 : w24[0]? = some (a.m, .inr (5, [.int (nI 2), .ref a.aS, .ref a.aK, .ref a.aI, .int (nI st.ex), .ref a.aH, .ref a.aF, .ref a.aG, .int (nI st.va), .ref a.aR, .int (nI st.co), .ref a.aL, .ref a.aT, .ref a.aO, .ref a.aB, .ref a.aW, .int (nI st.sv), .int (nI st.kn), .int (nI st.kc)])) := by rw [E26]; rfl
      exact x_iret hx hb hr hlocks hS hP hD (Nat.le_of_ble_eq_true rfl) (Nat.le_of_ble_eq_true rfl) d_M_value_31 (⟨_, E26, Or.inr (Or.inr (⟨rfl, ⟨ja, ga, rfl, fun q => by have := sv0.mp c13; omega⟩, hM⟩))⟩)
  · have m11 : ¬ md E.length x1 := by rw [← hex]; exact m11
    refine x_if_ne hx hb 0 rfl (by decide) (tgt := 19) d_M_value_10 (by decide) (fun c28 => ?_) (fun c28 => ?_)
    · exact False.elim (by omega)
    refine lv_aload_n hx hb d_M_value_13 rfl (lv_at hl 0 rfl) ?_
    refine lv_iconst (v := (nI 1)) hx hb d_M_value_14 (by decide) ?_
    refine x_calli (va_runV (As := [.int (nI 1)]) (rest := []) ⟨hx, hb, hml, hown, ht⟩ (c_M_raise l G A w2 a (⟨0, st.ex, st.va, st.co, st.sv, st.kn, st.kc, st.S, st.Kd, st.In, st.Hw, st.Fr, st.Gn, st.R, st.L, st.T, st.O, st.B, st.W⟩ : MS) E4 1) (cwV 1 ht (TW_V k_ml_M_117 k_im_M_raise k_se_M_raise k_in_M k_code_M_raise) rfl rfl rfl hv_M_raise ⟨Nat.le_of_ble_eq_true rfl, Nat.le_of_ble_eq_true rfl⟩) ⟨x_blind, va_recv hK hP rfl h5, x_pre hE hA hS hP hD⟩ rfl rfl hl.1 rfl (lv_room (Nat.le_of_ble_eq_true rfl)) d_M_value_15 ⟨Nat.le_of_ble_eq_true rfl, Nat.le_of_ble_eq_true rfl⟩) hS (fun r31 w30 H locs q29 hP hD hS => ?_)
    obtain ⟨rfl, q29⟩ := q29
    have E32 : w30 = mW G a (⟨1, st.ex, st.va, st.co, st.sv, st.kn, st.kc, st.S, st.Kd, st.In, st.Hw, st.Fr, st.Gn, st.R, st.L, st.T, st.O, st.B, st.W⟩ : MS) := q29
    have h33 : w30[0]? = some (a.m, .inr (5, [.int (nI 1), .ref a.aS, .ref a.aK, .ref a.aI, .int (nI st.ex), .ref a.aH, .ref a.aF, .ref a.aG, .int (nI st.va), .ref a.aR, .int (nI st.co), .ref a.aL, .ref a.aT, .ref a.aO, .ref a.aB, .ref a.aW, .int (nI st.sv), .int (nI st.kn), .int (nI st.kc)])) := by rw [E32]; rfl
    exact x_iret hx hb hr hlocks hS hP hD (Nat.le_of_ble_eq_true rfl) (Nat.le_of_ble_eq_true rfl) d_M_value_18 (⟨_, E32, Or.inr (Or.inl ⟨rfl, m11, hM⟩)⟩)
