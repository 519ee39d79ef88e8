/-! solving -/
abbrev hld (x : KK) (w : Nat → Nat) : Prop := vl x.1 w * vl x.2.1 w % 97 = vl x.2.2 w
def kAt (K : List KK) (i : Nat) : KK := K.getD i (zr, zr, zr)
theorem kAt_of {K : List KK} {i : Nat} {x : KK} (h : K[i]? = some x) : kAt K i = x := by unfold kAt; rw [List.getD_eq_getElem?_getD, h]; rfl
def brk (K : List KK) (w : Nat → Nat) : Nat → Nat
  | 0 => 0
  | n + 1 => brk K w n + (if hld (kAt K n) w then 0 else 1)
theorem brk_le (K : List KK) (w : Nat → Nat) : ∀ n, brk K w n ≤ n := by
  intro n
  induction n with
  | zero => exact Nat.le_refl 0
  | succ n ih => show brk K w n + _ ≤ _; split <;> omega
def num (x : VV) (w : Nat → Nat) : Option Nat :=
  if x.1 = 0 then some 1 else if x.1 = 1 then some x.2.2.2 else if x.1 = 2 then some (vl x.2.1 w * vl x.2.2.1 w % 97) else if x.1 = 3 then (if vl x.2.1 w = 0 then none else some (inv97 (vl x.2.1 w))) else if x.1 = 4 then some (inv97 (vl x.2.1 w)) else some (if vl x.2.1 w = 0 then 1 else 0)
def vAt (V : List VV) (i : Nat) : VV := V.getD i (0, zr, zr, 0)
theorem vAt_of {V : List VV} {i : Nat} {x : VV} (h : V[i]? = some x) : vAt V i = x := by unfold vAt; rw [List.getD_eq_getElem?_getD, h]; rfl
/-- the numbers, one variable behind another: n variables are left, the next is i -/
def fil (V : List VV) : Nat → Nat → (Nat → Nat) → Bool × (Nat → Nat)
  | 0, _, d => (true, d)
  | n + 1, i, d => match num (vAt V i) d with
    | none => (false, d)
    | some v => fil V n (i + 1) (va_up d i v)
theorem isL.set0 {G : xG} {ws : va_W} {o kl al n : Nat} {ka : Option Nat} {g : Nat → Nat} {fs : List Value} {x : Nat × va_E} (h : isL G ws kl ka al n g) (h0 : ws[0]? = some (o, .inr (0, fs))) : isL G (ws.set 0 x) kl ka al n g := by
  obtain ⟨mo, ea2, q0, qd⟩ := h
  refine ⟨mo, ea2, w_ne (w_dif h0 q0 (by simp)) q0, ?_⟩
  rcases qd with h | ⟨k, cap, f, e1, e2, e3⟩
  · exact Or.inl h
  · exact Or.inr ⟨k, cap, f, e1, w_ne (w_dif h0 e2 (by simp)) e2, e3⟩
theorem CCx.setRow {G : xG} {ws : va_W} {o z u lv le lk wa da : Nat} {kV kE kK : Option Nat} {gV gE gK : Nat → Nat} {V : List VV} {E : List EE} {K : List KK} {inp : Nat} {w d w2 d2 : Nat → Nat} {wV wC : Nat} (h : CCx G ws o z u lv le lk wa da kV kE kK gV gE gK V E K inp w d wV wC) {k0 a : Nat} {h0 h1 : Nat → Int32} (hk : k0 = 8 ∨ k0 = 9) (h8 : ws[k0]? = some (a, aI G 60 h0)) (hr : rows2 G (ws.set k0 (a, aI G 60 h1)) wa da w2 d2) :
    CCx G (ws.set k0 (a, aI G 60 h1)) o z u lv le lk wa da kV kE kK gV gE gK V E K inp w2 d2 wV wC ∧ kp ws (ws.set k0 (a, aI G 60 h1)) := by
  obtain ⟨g1, g2, g3, g4, g5, g6, g7, g8, g9, g10, g11, g12, g13⟩ := h
  have kk : kp ws (ws.set k0 (a, aI G 60 h1)) := by
    intro k b e hk2 hh
    refine w_ne ?_ hk2
    rintro rfl
    have := w_fn hk2 h8
    cases this
    rcases hh with ⟨ci, fs, e1, e2⟩ | ⟨c, m, f, e1, e2, e3⟩
    · cases e1
    · omega
  have kl : ∀ {kl2 : Nat} {kb : Option Nat} {al2 n2 : Nat} {g2 : Nat → Nat}, isL G ws kl2 kb al2 n2 g2 → isL G (ws.set k0 (a, aI G 60 h1)) kl2 kb al2 n2 g2 := by
    intro kl2 kb al2 n2 g2 q
    obtain ⟨mo, ea, q0, qd⟩ := q
    refine ⟨mo, ea, w_ne (w_dif h8 q0 (by simp)) q0, ?_⟩
    rcases qd with h | ⟨k, cap, f, e1, e2, e3⟩
    · exact Or.inl h
    · exact Or.inr ⟨k, cap, f, e1, w_ne (w_dif h8 e2 (by simp)) e2, e3⟩
  exact ⟨⟨w_ne (w_dif h8 g1 (by simp)) g1, g2.kp kk, g3.kp kk, kl g4, kl g5, kl g6, fun i x hx => (g7 i x hx).kp kk, fun i x hx => (g8 i x hx).kp kk, fun i x hx => (g9 i x hx).kp kk, g10, g11, hr, by rw [w_setlen]; exact g13⟩, kk⟩

set_option maxHeartbeats 4000000 in
set_option maxRecDepth 100000 in
theorem c_hasW (l : Launch) (G : xG) (A : Nat → Prop) (ws : va_W) (o z u lv le lk : Nat) (V : List VV) (E : List EE) (K : List KK) (inp : Nat) (w d : Nat → Nat) (wV wC : Nat) (hR : CCs G ws o z u lv le lk V E K inp w d wV wC) (bW : wV ≤ 60) : Met l y_C_hasWitness (cw_C_hasWitness :: TW) { frames := 1, cells := 0, slots := 0, locals := 26 } (va_Pc [.ref o] (x_P G A ws)) (qI G A (fun r w9 => ws = w9 ∧ ((r = nI 1 ∧ 0 < wV) ∨ (r = nI 0 ∧ wV = 0)))) 0 0 A := by
  refine Met.ofW (cc := b_C_hasWitness) (maxL := 1) (ret := (some .boolean)) (by decide) rfl ?_
  intro p e s m args below meth c s₁ B hml hv
  obtain ⟨rfl, hE, hA, hP, hD⟩ := hv
  have hx := B.exec
  have hb := B.bytes
  have hr := B.returns
  have ht : ∀ w ∈ TW, w.before _ s = true := fun w h => atoms_spec (ws := cw_C_hasWitness :: TW) B.pre w (List.mem_cons_of_mem _ h)
  have hown : s.vm.findClass R_C = some m.cls := findClass_of_methodNamed B.named
  have hlocks := B.notSynchronized
  have hK := hE.1
  have hS : va_S A s.heap s.heap [] := va_S.rf
  have hl := lv_entry ([.ref o]) (n := 1) (Nat.le_of_ble_eq_true rfl)
  rw [lg_entry_eq]
  generalize (lg_sl ([.ref o]) ++ List.replicate (1 - (lg_sl ([.ref o])).length) Slot.unset).toArray = ls at hl ⊢
  have hl : lv_has ls 1 [(0, .ref o)] := hl
  obtain ⟨wa0, da0, ho0⟩ := CCs.o hR
  refine lv_aload_n hx hb d_C_hasWitness_0 rfl (lv_at hl 0 rfl) ?_
  refine va_get (D := xD G) (ci := 0) (C := R_C) (T := F_C) (N := 10) hx hb ht in_C hown hK hP 0 ho0 rfl 8 (by decide) (ht _ k_fl_C_132) (fun _ h9 => h9) rfl d_C_hasWitness_1 ?_
  refine x_if_le hx hb wV rfl (by omega) (tgt := 11) d_C_hasWitness_4 (by decide) (fun c1 => ?_) (fun c1 => ?_)
  · refine lv_iconst (v := (nI 0)) hx hb d_C_hasWitness_11 (by decide) ?_
    exact x_zret hx hb hr hlocks hS hP hD (Nat.le_of_ble_eq_true rfl) (Nat.le_of_ble_eq_true rfl) d_C_hasWitness_12 rfl (⟨rfl, Or.inr ⟨rfl, c1⟩⟩)
  · refine lv_iconst (v := (nI 1)) hx hb d_C_hasWitness_7 (by decide) ?_
    refine lv_goto (tgt := 12) hx hb d_C_hasWitness_8 (by decide) ?_
    exact x_zret hx hb hr hlocks hS hP hD (Nat.le_of_ble_eq_true rfl) (Nat.le_of_ble_eq_true rfl) d_C_hasWitness_12 rfl (⟨rfl, Or.inl ⟨rfl, c1⟩⟩)

set_option maxHeartbeats 4000000 in
set_option maxRecDepth 100000 in
theorem c_isVar (l : Launch) (G : xG) (A : Nat → Prop) (ws : va_W) (x : Int32) : Met l y_C_isVariableNumber (cw_C_isVariableNumber :: TW) { frames := 1, cells := 0, slots := 0, locals := 26 } (va_Pc [.int x] (x_P G A ws)) (qI G A (fun r w9 => ws = w9 ∧ ((r = nI 1 ∧ md 60 x) ∨ (r = nI 0 ∧ ¬ md 60 x)))) 0 0 A := by
  refine Met.ofW (cc := b_C_isVariableNumber) (maxL := 1) (ret := (some .boolean)) (by decide) rfl ?_
  intro p e s m args below meth c s₁ B hml hv
  obtain ⟨rfl, hE, hA, hP, hD⟩ := hv
  have hx := B.exec
  have hb := B.bytes
  have hr := B.returns
  have ht : ∀ w ∈ TW, w.before _ s = true := fun w h => atoms_spec (ws := cw_C_isVariableNumber :: TW) B.pre w (List.mem_cons_of_mem _ h)
  have hown : s.vm.findClass R_C = some m.cls := findClass_of_methodNamed B.named
  have hlocks := B.notSynchronized
  have hK := hE.1
  have hS : va_S A s.heap s.heap [] := va_S.rf
  have hl := lv_entry ([.int x]) (n := 1) (Nat.le_of_ble_eq_true rfl)
  rw [lg_entry_eq]
  generalize (lg_sl ([.int x]) ++ List.replicate (1 - (lg_sl ([.int x])).length) Slot.unset).toArray = ls at hl ⊢
  have hl : lv_has ls 1 [(0, .int x)] := hl
  refine lv_iload_n hx hb d_C_isVariableNumber_0 rfl (lv_at hl 0 rfl) ?_
  refine lv_if_lt (tgt := 14) hx hb d_C_isVariableNumber_1 (by decide) (fun c1 => ?_) (fun c1 => ?_)
  · refine lv_iconst (v := (nI 0)) hx hb d_C_isVariableNumber_14 (by decide) ?_
    exact x_zret hx hb hr hlocks hS hP hD (Nat.le_of_ble_eq_true rfl) (Nat.le_of_ble_eq_true rfl) d_C_isVariableNumber_15 rfl (⟨rfl, Or.inr ⟨rfl, md_neg (by decide) c1⟩⟩)
  obtain ⟨j, hj, rfl⟩ := nI_of c1
  refine lv_iload_n hx hb d_C_isVariableNumber_4 rfl (lv_at hl 0 rfl) ?_
  refine lv_bipush (v := (nI 60)) hx hb d_C_isVariableNumber_5 (by decide) ?_
  refine x_ge hx hb j 60 rfl rfl (by omega) (by omega) (tgt := 14) d_C_isVariableNumber_7 (by decide) (fun c1 => ?_) (fun c1 => ?_)
  · refine lv_iconst (v := (nI 0)) hx hb d_C_isVariableNumber_14 (by decide) ?_
    exact x_zret hx hb hr hlocks hS hP hD (Nat.le_of_ble_eq_true rfl) (Nat.le_of_ble_eq_true rfl) d_C_isVariableNumber_15 rfl (⟨rfl, Or.inr ⟨rfl, fun q => by rw [md_iff (by decide) hj] at q; omega⟩⟩)
  · refine lv_iconst (v := (nI 1)) hx hb d_C_isVariableNumber_10 (by decide) ?_
    refine lv_goto (tgt := 15) hx hb d_C_isVariableNumber_11 (by decide) ?_
    exact x_zret hx hb hr hlocks hS hP hD (Nat.le_of_ble_eq_true rfl) (Nat.le_of_ble_eq_true rfl) d_C_isVariableNumber_15 rfl (⟨rfl, Or.inl ⟨rfl, (md_iff (by decide) hj).mpr c1⟩⟩)

set_option maxHeartbeats 4000000 in
set_option maxRecDepth 100000 in
theorem c_holds (l : Launch) (G : xG) (A : Nat → Prop) (ws : va_W) (a wa : Nat) (x : KK) (w : Nat → Nat) (hc : isC G ws a x) (hw : isW G ws wa w) : Met l y_K_holdsFor (cw_K_holdsFor :: TW) { frames := 4, cells := 0, slots := 0, locals := 104 } (va_Pc [.ref a, .ref wa] (x_P G A ws)) (qI G A (fun r w9 => ws = w9 ∧ ((r = nI 1 ∧ hld x w) ∨ (r = nI 0 ∧ ¬ hld x w)))) 0 0 A := by
  refine Met.ofW (cc := b_K_holdsFor) (maxL := 2) (ret := (some .boolean)) (by decide) rfl ?_
  intro p e s m args below meth c s₁ B hml hv
  obtain ⟨rfl, hE, hA, hP, hD⟩ := hv
  have hx := B.exec
  have hb := B.bytes
  have hr := B.returns
  have ht : ∀ w ∈ TW, w.before _ s = true := fun w h => atoms_spec (ws := cw_K_holdsFor :: TW) B.pre w (List.mem_cons_of_mem _ h)
  have hown : s.vm.findClass R_K = some m.cls := findClass_of_methodNamed B.named
  have hlocks := B.notSynchronized
  have hK := hE.1
  have hS : va_S A s.heap s.heap [] := va_S.rf
  have hl := lv_entry ([.ref a, .ref wa]) (n := 2) (Nat.le_of_ble_eq_true rfl)
  rw [lg_entry_eq]
  generalize (lg_sl ([.ref a, .ref wa]) ++ List.replicate (2 - (lg_sl ([.ref a, .ref wa])).length) Slot.unset).toArray = ls at hl ⊢
  have hl : lv_has ls 2 [(0, .ref a), (1, .ref wa)] := hl
  obtain ⟨kK, xaK, yaK, zaK, c0K, s1K, s2K, s3K⟩ := id hc
  obtain ⟨kxK, jxK, cxK, fxK, pxK, qxK, nxK, oxK, exK, bxK⟩ := id s1K
  obtain ⟨kyK, jyK, cyK, fyK, pyK, qyK, nyK, oyK, eyK, byK⟩ := id s2K
  obtain ⟨kzK, jzK, czK, fzK, pzK, qzK, nzK, ozK, ezK, bzK⟩ := id s3K
  have v1 := vl_lt x.1 w
  have v2 := vl_lt x.2.1 w
  have v3 := vl_lt x.2.2 w
  have v4 : vl x.1 w * vl x.2.1 w ≤ 96 * 96 := Nat.mul_le_mul (by omega) (by omega)
  refine lv_aload_n hx hb d_K_holdsFor_0 rfl (lv_at hl 0 rfl) ?_
  refine va_get (D := xD G) (ci := 4) (C := R_K) (T := F_K) (N := 3) hx hb ht in_K hown hK hP kK c0K rfl 0 (by decide) (ht _ k_fl_K_7) (fun _ h9 => h9) rfl d_K_holdsFor_1 ?_
  refine lv_aload_n hx hb d_K_holdsFor_4 rfl (lv_at hl 1 rfl) ?_
  refine x_calli (va_runV (As := [.ref wa]) (rest := []) ⟨hx, hb, hml, hown, ht⟩ (c_S_value l G A ws xaK wa _ w s1K hw) (cwV 1 ht (TW_V k_ml_K_19 k_im_S_valueFor k_se_S_valueFor k_in_S k_code_S_valueFor) rfl rfl rfl hv_S_valueFor ⟨Nat.le_of_ble_eq_true rfl, Nat.le_of_ble_eq_true rfl⟩) ⟨x_blind, va_recv hK hP rfl pxK, x_pre hE hA hS hP hD⟩ rfl rfl hl.1 rfl (lv_room (Nat.le_of_ble_eq_true rfl)) d_K_holdsFor_5 ⟨Nat.le_of_ble_eq_true rfl, Nat.le_of_ble_eq_true rfl⟩) hS (fun r3 w2 H locs q1 hP hD hS => ?_)
  obtain ⟨rfl, rfl⟩ := q1
  refine lv_aload_n hx hb d_K_holdsFor_8 rfl (lv_at hl 0 rfl) ?_
  refine va_get (D := xD G) (ci := 4) (C := R_K) (T := F_K) (N := 3) hx hb ht in_K hown hK hP kK c0K rfl 1 (by decide) (ht _ k_fl_K_13) (fun _ h9 => h9) rfl d_K_holdsFor_9 ?_
  refine lv_aload_n hx hb d_K_holdsFor_12 rfl (lv_at hl 1 rfl) ?_
  refine x_calli (va_runV (As := [.ref wa]) (rest := [.int (nI (vl x.1 w))]) ⟨hx, hb, hml, hown, ht⟩ (c_S_value l G A ws yaK wa _ w s2K hw) (cwV 1 ht (TW_V k_ml_K_19 k_im_S_valueFor k_se_S_valueFor k_in_S k_code_S_valueFor) rfl rfl rfl hv_S_valueFor ⟨Nat.le_of_ble_eq_true rfl, Nat.le_of_ble_eq_true rfl⟩) ⟨x_blind, va_recv hK hP rfl pyK, x_pre hE hA hS hP hD⟩ rfl rfl hl.1 rfl (lv_room (Nat.le_of_ble_eq_true rfl)) d_K_holdsFor_13 ⟨Nat.le_of_ble_eq_true rfl, Nat.le_of_ble_eq_true rfl⟩) hS (fun r6 w5 H locs q4 hP hD hS => ?_)
  obtain ⟨rfl, rfl⟩ := q4
  refine lv_imul hx hb d_K_holdsFor_16 ?_
  refine x_top (nI ((vl x.1 w) * (vl x.2.1 w))) (pk_mul _ _) ?_
  refine x_calli (va_runSN (As := [.int (nI ((vl x.1 w) * (vl x.2.1 w)))]) (rest := []) (host := R_C) ⟨hx, hb, hml, hown, ht⟩ (c_remainder l G A ws _) ⟨va_cnB 1 ht (TW_good k_code_C_remainder) rfl rfl rfl (hE.2.2.2.2.2.2.2 _ k_mn_K_25) (ht _ k_in_C) hv_C_remainder.2 ⟨Nat.le_of_ble_eq_true rfl, Nat.le_of_ble_eq_true rfl⟩, ht _ k_st_C_remainder, trivial⟩ ⟨x_blind, x_pre hE hA hS hP hD⟩ rfl rfl hl.1 rfl (lv_room (Nat.le_of_ble_eq_true rfl)) d_K_holdsFor_17 ⟨Nat.le_of_ble_eq_true rfl, Nat.le_of_ble_eq_true rfl⟩) hS (fun r9 w8 H locs q7 hP hD hS => ?_)
  obtain ⟨rfl, rfl⟩ := q7
  refine x_top (nI (vl x.1 w * vl x.2.1 w % 97)) (by rw [rm_nat (by omega)]) ?_
  refine lv_aload_n hx hb d_K_holdsFor_20 rfl (lv_at hl 0 rfl) ?_
  refine va_get (D := xD G) (ci := 4) (C := R_K) (T := F_K) (N := 3) hx hb ht in_K hown hK hP kK c0K rfl 2 (by decide) (ht _ k_fl_K_16) (fun _ h9 => h9) rfl d_K_holdsFor_21 ?_
  refine lv_aload_n hx hb d_K_holdsFor_24 rfl (lv_at hl 1 rfl) ?_
  refine x_calli (va_runV (As := [.ref wa]) (rest := [.int (nI (vl x.1 w * vl x.2.1 w % 97))]) ⟨hx, hb, hml, hown, ht⟩ (c_S_value l G A ws zaK wa _ w s3K hw) (cwV 1 ht (TW_V k_ml_K_19 k_im_S_valueFor k_se_S_valueFor k_in_S k_code_S_valueFor) rfl rfl rfl hv_S_valueFor ⟨Nat.le_of_ble_eq_true rfl, Nat.le_of_ble_eq_true rfl⟩) ⟨x_blind, va_recv hK hP rfl pzK, x_pre hE hA hS hP hD⟩ rfl rfl hl.1 rfl (lv_room (Nat.le_of_ble_eq_true rfl)) d_K_holdsFor_25 ⟨Nat.le_of_ble_eq_true rfl, Nat.le_of_ble_eq_true rfl⟩) hS (fun r12 w11 H locs q10 hP hD hS => ?_)
  obtain ⟨rfl, rfl⟩ := q10
  refine x_ne hx hb (vl x.1 w * vl x.2.1 w % 97) (vl x.2.2 w) rfl rfl (by omega) (by omega) (tgt := 35) d_K_holdsFor_28 (by decide) (fun c13 => ?_) (fun c13 => ?_)
  · refine lv_iconst (v := (nI 0)) hx hb d_K_holdsFor_35 (by decide) ?_
    exact x_zret hx hb hr hlocks hS hP hD (Nat.le_of_ble_eq_true rfl) (Nat.le_of_ble_eq_true rfl) d_K_holdsFor_36 rfl (⟨rfl, Or.inr ⟨rfl, c13⟩⟩)
  · refine lv_iconst (v := (nI 1)) hx hb d_K_holdsFor_31 (by decide) ?_
    refine lv_goto (tgt := 36) hx hb d_K_holdsFor_32 (by decide) ?_
    exact x_zret hx hb hr hlocks hS hP hD (Nat.le_of_ble_eq_true rfl) (Nat.le_of_ble_eq_true rfl) d_K_holdsFor_36 rfl (⟨rfl, Or.inl ⟨rfl, c13⟩⟩)

set_option maxHeartbeats 4000000 in
set_option maxRecDepth 100000 in
theorem c_num (l : Launch) (G : xG) (A : Nat → Prop) (ws : va_W) (a wa : Nat) (x : VV) (w : Nat → Nat) (hv : isV G ws a x) (hw : isW G ws wa w) (hr5 : x.1 ≤ 5) (hg9 : x.2.2.2 < 97) : Met l y_V_numberFor (cw_V_numberFor :: TW) { frames := 4, cells := 0, slots := 0, locals := 104 } (va_Pc [.ref a, .ref wa] (x_P G A ws)) (qI G A (fun r w9 => ws = w9 ∧ ((∃ v, num x w = some v ∧ r = nI v ∧ v < 97) ∨ (num x w = none ∧ r = -1)))) 0 0 A := by
  refine Met.ofW (cc := b_V_numberFor) (maxL := 3) (ret := (some .int)) (by decide) rfl ?_
  intro p e s m args below meth c s₁ B hml hv
  obtain ⟨rfl, hE, hA, hP, hD⟩ := hv
  have hx := B.exec
  have hb := B.bytes
  have hr := B.returns
  have ht : ∀ w ∈ TW, w.before _ s = true := fun w h => atoms_spec (ws := cw_V_numberFor :: TW) B.pre w (List.mem_cons_of_mem _ h)
  have hown : s.vm.findClass R_V = some m.cls := findClass_of_methodNamed B.named
  have hlocks := B.notSynchronized
  have hK := hE.1
  have hS : va_S A s.heap s.heap [] := va_S.rf
  have hl := lv_entry ([.ref a, .ref wa]) (n := 3) (Nat.le_of_ble_eq_true rfl)
  rw [lg_entry_eq]
  generalize (lg_sl ([.ref a, .ref wa]) ++ List.replicate (3 - (lg_sl ([.ref a, .ref wa])).length) Slot.unset).toArray = ls at hl ⊢
  have hl : lv_has ls 3 [(0, .ref a), (1, .ref wa)] := hl
  obtain ⟨ru, lf, rg, gi⟩ := x
  obtain ⟨kv, la, ra, c0, s1, s2⟩ := id hv
  dsimp only at hr5 hg9 c0 s1 s2
  obtain ⟨kA, jA, cA, fA, pA, qA, nA, oA, eA, bA⟩ := id s1
  obtain ⟨kB, jB, cB, fB, pB, qB, nB, oB, eB, bB⟩ := id s2
  have v1 := vl_lt lf w
  have v2 := vl_lt rg w
  have v4 : vl lf w * vl rg w ≤ 96 * 96 := Nat.mul_le_mul (by omega) (by omega)
  refine lv_aload_n hx hb d_V_numberFor_0 rfl (lv_at hl 0 rfl) ?_
  refine va_get (D := xD G) (ci := 2) (C := R_V) (T := F_V) (N := 4) hx hb ht in_V hown hK hP kv c0 rfl 1 (by decide) (ht _ k_fl_V_15) (fun _ h9 => h9) rfl d_V_numberFor_1 ?_
  refine lv_aload_n hx hb d_V_numberFor_4 rfl (lv_at hl 1 rfl) ?_
  refine x_calli (va_runV (As := [.ref wa]) (rest := []) ⟨hx, hb, hml, hown, ht⟩ (c_S_value l G A ws la wa lf w s1 hw) (cwV 1 ht (TW_V k_ml_V_22 k_im_S_valueFor k_se_S_valueFor k_in_S k_code_S_valueFor) rfl rfl rfl hv_S_valueFor ⟨Nat.le_of_ble_eq_true rfl, Nat.le_of_ble_eq_true rfl⟩) ⟨x_blind, va_recv hK hP rfl pA, x_pre hE hA hS hP hD⟩ rfl rfl hl.1 rfl (lv_room (Nat.le_of_ble_eq_true rfl)) d_V_numberFor_5 ⟨Nat.le_of_ble_eq_true rfl, Nat.le_of_ble_eq_true rfl⟩) hS (fun r3 w2 H locs q1 hP hD hS => ?_)
  obtain ⟨rfl, rfl⟩ := q1
  refine lv_istore_n (lv' := [(2, .int (nI (vl lf w))), (0, .ref a), (1, .ref wa)]) hx hb d_V_numberFor_8 rfl hl (by decide) rfl (fun ls hl => ?_)
  refine lv_aload_n hx hb d_V_numberFor_9 rfl (lv_at hl 1 rfl) ?_
  refine va_get (D := xD G) (ci := 2) (C := R_V) (T := F_V) (N := 4) hx hb ht in_V hown hK hP kv c0 rfl 0 (by decide) (ht _ k_fl_V_9) (fun _ h9 => h9) rfl d_V_numberFor_10 ?_
  have hk9 : ru = 0 ∨ ru = 1 ∨ ru = 2 ∨ ru = 3 ∨ ru = 4 ∨ ru = 5 := by omega
  rcases hk9 with rfl | rfl | rfl | rfl | rfl | rfl
  · refine lv_tableIn (off := 35) (tgt := 48) hx hb d_V_numberFor_13 (by decide) (by decide) (by decide) (by decide) ?_
    refine lv_iconst (v := (nI 1)) hx hb d_V_numberFor_48 (by decide) ?_
    exact x_iret hx hb hr hlocks hS hP hD (Nat.le_of_ble_eq_true rfl) (Nat.le_of_ble_eq_true rfl) d_V_numberFor_49 (⟨rfl, Or.inl ⟨1, rfl, rfl, by decide⟩⟩)
  · refine lv_tableIn (off := 37) (tgt := 50) hx hb d_V_numberFor_13 (by decide) (by decide) (by decide) (by decide) ?_
    refine lv_aload_n hx hb d_V_numberFor_50 rfl (lv_at hl 1 rfl) ?_
    refine va_get (D := xD G) (ci := 2) (C := R_V) (T := F_V) (N := 4) hx hb ht in_V hown hK hP kv c0 rfl 3 (by decide) (ht _ k_fl_V_28) (fun _ h9 => h9) rfl d_V_numberFor_51 ?_
    exact x_iret hx hb hr hlocks hS hP hD (Nat.le_of_ble_eq_true rfl) (Nat.le_of_ble_eq_true rfl) d_V_numberFor_54 (⟨rfl, Or.inl ⟨gi, rfl, rfl, hg9⟩⟩)
  · refine lv_tableIn (off := 42) (tgt := 55) hx hb d_V_numberFor_13 (by decide) (by decide) (by decide) (by decide) ?_
    refine lv_iload_n hx hb d_V_numberFor_55 rfl (lv_at hl 0 rfl) ?_
    refine lv_aload_n hx hb d_V_numberFor_56 rfl (lv_at hl 1 rfl) ?_
    refine va_get (D := xD G) (ci := 2) (C := R_V) (T := F_V) (N := 4) hx hb ht in_V hown hK hP kv c0 rfl 2 (by decide) (ht _ k_fl_V_19) (fun _ h9 => h9) rfl d_V_numberFor_57 ?_
    refine lv_aload_n hx hb d_V_numberFor_60 rfl (lv_at hl 2 rfl) ?_
    refine x_calli (va_runV (As := [.ref wa]) (rest := [.int (nI (vl lf w))]) ⟨hx, hb, hml, hown, ht⟩ (c_S_value l G A ws ra wa rg w s2 hw) (cwV 1 ht (TW_V k_ml_V_22 k_im_S_valueFor k_se_S_valueFor k_in_S k_code_S_valueFor) rfl rfl rfl hv_S_valueFor ⟨Nat.le_of_ble_eq_true rfl, Nat.le_of_ble_eq_true rfl⟩) ⟨x_blind, va_recv hK hP rfl pB, x_pre hE hA hS hP hD⟩ rfl rfl hl.1 rfl (lv_room (Nat.le_of_ble_eq_true rfl)) d_V_numberFor_61 ⟨Nat.le_of_ble_eq_true rfl, Nat.le_of_ble_eq_true rfl⟩) hS (fun r6 w5 H locs q4 hP hD hS => ?_)
    obtain ⟨rfl, rfl⟩ := q4
    refine lv_imul hx hb d_V_numberFor_64 ?_
    refine x_top (nI ((vl lf w) * (vl rg w))) (pk_mul _ _) ?_
    refine x_calli (va_runSN (As := [.int (nI ((vl lf w) * (vl rg w)))]) (rest := []) (host := R_C) ⟨hx, hb, hml, hown, ht⟩ (c_remainder l G A ws _) ⟨va_cnB 1 ht (TW_good k_code_C_remainder) rfl rfl rfl (hE.2.2.2.2.2.2.2 _ k_mn_V_31) (ht _ k_in_C) hv_C_remainder.2 ⟨Nat.le_of_ble_eq_true rfl, Nat.le_of_ble_eq_true rfl⟩, ht _ k_st_C_remainder, trivial⟩ ⟨x_blind, x_pre hE hA hS hP hD⟩ rfl rfl hl.1 rfl (lv_room (Nat.le_of_ble_eq_true rfl)) d_V_numberFor_65 ⟨Nat.le_of_ble_eq_true rfl, Nat.le_of_ble_eq_true rfl⟩) hS (fun r9 w8 H locs q7 hP hD hS => ?_)
    obtain ⟨rfl, rfl⟩ := q7
    exact x_iret hx hb hr hlocks hS hP hD (Nat.le_of_ble_eq_true rfl) (Nat.le_of_ble_eq_true rfl) d_V_numberFor_68 (⟨rfl, Or.inl ⟨vl lf w * vl rg w % 97, rfl, by rw [rm_nat (by omega)], Nat.mod_lt _ (by decide)⟩⟩)
  · refine lv_tableIn (off := 56) (tgt := 69) hx hb d_V_numberFor_13 (by decide) (by decide) (by decide) (by decide) ?_
    refine lv_iload_n hx hb d_V_numberFor_69 rfl (lv_at hl 0 rfl) ?_
    refine x_if_ne hx hb (vl lf w) rfl (by omega) (tgt := 77) d_V_numberFor_70 (by decide) (fun c10 => ?_) (fun c10 => ?_)
    · refine lv_iload_n hx hb d_V_numberFor_77 rfl (lv_at hl 0 rfl) ?_
      refine x_calli (va_runSN (As := [.int (nI (vl lf w))]) (rest := []) (host := R_C) ⟨hx, hb, hml, hown, ht⟩ (c_inverse l G A ws (vl lf w) v1) ⟨va_cnB 1 ht (TW_good k_code_C_inverseOrZero) rfl rfl rfl (hE.2.2.2.2.2.2.2 _ k_mn_V_35) (ht _ k_in_C) hv_C_inverseOrZero.2 ⟨Nat.le_of_ble_eq_true rfl, Nat.le_of_ble_eq_true rfl⟩, ht _ k_st_C_inverseOrZero, trivial⟩ ⟨x_blind, x_pre hE hA hS hP hD⟩ rfl rfl hl.1 rfl (lv_room (Nat.le_of_ble_eq_true rfl)) d_V_numberFor_78 ⟨Nat.le_of_ble_eq_true rfl, Nat.le_of_ble_eq_true rfl⟩) hS (fun r13 w12 H locs q11 hP hD hS => ?_)
      obtain ⟨rfl, rfl⟩ := q11
      exact x_iret hx hb hr hlocks hS hP hD (Nat.le_of_ble_eq_true rfl) (Nat.le_of_ble_eq_true rfl) d_V_numberFor_81 (⟨rfl, Or.inl ⟨_, by simp [num, c10], rfl, inv97_lt _⟩⟩)
    · refine lv_iconst (v := (-1)) hx hb d_V_numberFor_73 (by decide) ?_
      refine lv_goto (tgt := 81) hx hb d_V_numberFor_74 (by decide) ?_
      exact x_iret hx hb hr hlocks hS hP hD (Nat.le_of_ble_eq_true rfl) (Nat.le_of_ble_eq_true rfl) d_V_numberFor_81 (⟨rfl, Or.inr ⟨by simp [num, c10], rfl⟩⟩)
  · refine lv_tableIn (off := 69) (tgt := 82) hx hb d_V_numberFor_13 (by decide) (by decide) (by decide) (by decide) ?_
    refine lv_iload_n hx hb d_V_numberFor_82 rfl (lv_at hl 0 rfl) ?_
    refine x_calli (va_runSN (As := [.int (nI (vl lf w))]) (rest := []) (host := R_C) ⟨hx, hb, hml, hown, ht⟩ (c_inverse l G A ws (vl lf w) v1) ⟨va_cnB 1 ht (TW_good k_code_C_inverseOrZero) rfl rfl rfl (hE.2.2.2.2.2.2.2 _ k_mn_V_35) (ht _ k_in_C) hv_C_inverseOrZero.2 ⟨Nat.le_of_ble_eq_true rfl, Nat.le_of_ble_eq_true rfl⟩, ht _ k_st_C_inverseOrZero, trivial⟩ ⟨x_blind, x_pre hE hA hS hP hD⟩ rfl rfl hl.1 rfl (lv_room (Nat.le_of_ble_eq_true rfl)) d_V_numberFor_83 ⟨Nat.le_of_ble_eq_true rfl, Nat.le_of_ble_eq_true rfl⟩) hS (fun r16 w15 H locs q14 hP hD hS => ?_)
    obtain ⟨rfl, rfl⟩ := q14
    exact x_iret hx hb hr hlocks hS hP hD (Nat.le_of_ble_eq_true rfl) (Nat.le_of_ble_eq_true rfl) d_V_numberFor_86 (⟨rfl, Or.inl ⟨_, rfl, rfl, inv97_lt _⟩⟩)
  · refine lv_tableOut (tgt := 87) hx hb d_V_numberFor_13 (by decide) (by decide) ?_
    refine lv_iload_n hx hb d_V_numberFor_87 rfl (lv_at hl 0 rfl) ?_
    refine x_if_ne hx hb (vl lf w) rfl (by omega) (tgt := 95) d_V_numberFor_88 (by decide) (fun c17 => ?_) (fun c17 => ?_)
    · refine lv_iconst (v := (nI 0)) hx hb d_V_numberFor_95 (by decide) ?_
      exact x_iret hx hb hr hlocks hS hP hD (Nat.le_of_ble_eq_true rfl) (Nat.le_of_ble_eq_true rfl) d_V_numberFor_96 (⟨rfl, Or.inl ⟨0, by simp [num, c17], rfl, by decide⟩⟩)
    · refine lv_iconst (v := (nI 1)) hx hb d_V_numberFor_91 (by decide) ?_
      refine lv_goto (tgt := 96) hx hb d_V_numberFor_92 (by decide) ?_
      exact x_iret hx hb hr hlocks hS hP hD (Nat.le_of_ble_eq_true rfl) (Nat.le_of_ble_eq_true rfl) d_V_numberFor_96 (⟨rfl, Or.inl ⟨1, by simp [num, c17], rfl, by decide⟩⟩)

set_option maxHeartbeats 4000000 in
set_option maxRecDepth 100000 in
theorem c_sumAt (l : Launch) (G : xG) (A : Nat → Prop) (ws : va_W) (a i : Nat) (x : KK) (hc : isC G ws a x) (hi : i ≤ 2) : Met l y_K_sumAt (cw_K_sumAt :: TW) { frames := 1, cells := 0, slots := 0, locals := 26 } (va_Pc [.ref a, .int (nI i)] (x_P G A ws)) (qR G A (fun r w9 => ws = w9 ∧ isS G ws r (if i = 0 then x.1 else if i = 1 then x.2.1 else x.2.2))) 0 0 A := by
  refine Met.ofW (cc := b_K_sumAt) (maxL := 2) (ret := (some (.object "ConstraintCompiler$Sum"))) (by decide) rfl ?_
  intro p e s m args below meth c s₁ B hml hv
  obtain ⟨rfl, hE, hA, hP, hD⟩ := hv
  have hx := B.exec
  have hb := B.bytes
  have hr := B.returns
  have ht : ∀ w ∈ TW, w.before _ s = true := fun w h => atoms_spec (ws := cw_K_sumAt :: TW) B.pre w (List.mem_cons_of_mem _ h)
  have hown : s.vm.findClass R_K = some m.cls := findClass_of_methodNamed B.named
  have hlocks := B.notSynchronized
  have hK := hE.1
  have hS : va_S A s.heap s.heap [] := va_S.rf
  have hl := lv_entry ([.ref a, .int (nI i)]) (n := 2) (Nat.le_of_ble_eq_true rfl)
  rw [lg_entry_eq]
  generalize (lg_sl ([.ref a, .int (nI i)]) ++ List.replicate (2 - (lg_sl ([.ref a, .int (nI i)])).length) Slot.unset).toArray = ls at hl ⊢
  have hl : lv_has ls 2 [(0, .ref a), (1, .int (nI i))] := hl
  obtain ⟨kK, xaK, yaK, zaK, c0K, s1K, s2K, s3K⟩ := id hc
  obtain ⟨kxK, jxK, cxK, fxK, pxK, qxK, nxK, oxK, exK, bxK⟩ := id s1K
  obtain ⟨kyK, jyK, cyK, fyK, pyK, qyK, nyK, oyK, eyK, byK⟩ := id s2K
  obtain ⟨kzK, jzK, czK, fzK, pzK, qzK, nzK, ozK, ezK, bzK⟩ := id s3K
  refine lv_iload_n hx hb d_K_sumAt_0 rfl (lv_at hl 1 rfl) ?_
  have hk9 : i = 0 ∨ i = 1 ∨ i = 2 := by omega
  rcases hk9 with rfl | rfl | rfl
  · refine lv_lookup (off := 27) (tgt := 28) hx hb d_K_sumAt_1 (by decide) (by decide) (by decide) ?_
    refine lv_aload_n hx hb d_K_sumAt_28 rfl (lv_at hl 0 rfl) ?_
    refine va_get (D := xD G) (ci := 4) (C := R_K) (T := F_K) (N := 3) hx hb ht in_K hown hK hP kK c0K rfl 0 (by decide) (ht _ k_fl_K_7) (fun _ h9 => h9) rfl d_K_sumAt_29 ?_
    exact x_aret hx hb hr (Or.inl ⟨_, rfl⟩) hlocks hS hP hD (Nat.le_of_ble_eq_true rfl) (Nat.le_of_ble_eq_true rfl) d_K_sumAt_32 (⟨rfl, s1K⟩)
  · refine lv_lookup (off := 32) (tgt := 33) hx hb d_K_sumAt_1 (by decide) (by decide) (by decide) ?_
    refine lv_aload_n hx hb d_K_sumAt_33 rfl (lv_at hl 0 rfl) ?_
    refine va_get (D := xD G) (ci := 4) (C := R_K) (T := F_K) (N := 3) hx hb ht in_K hown hK hP kK c0K rfl 1 (by decide) (ht _ k_fl_K_13) (fun _ h9 => h9) rfl d_K_sumAt_34 ?_
    exact x_aret hx hb hr (Or.inl ⟨_, rfl⟩) hlocks hS hP hD (Nat.le_of_ble_eq_true rfl) (Nat.le_of_ble_eq_true rfl) d_K_sumAt_37 (⟨rfl, s2K⟩)
  · refine lv_lookup (off := 37) (tgt := 38) hx hb d_K_sumAt_1 (by decide) (by decide) (by decide) ?_
    refine lv_aload_n hx hb d_K_sumAt_38 rfl (lv_at hl 0 rfl) ?_
    refine va_get (D := xD G) (ci := 4) (C := R_K) (T := F_K) (N := 3) hx hb ht in_K hown hK hP kK c0K rfl 2 (by decide) (ht _ k_fl_K_16) (fun _ h9 => h9) rfl d_K_sumAt_39 ?_
    exact x_aret hx hb hr (Or.inl ⟨_, rfl⟩) hlocks hS hP hD (Nat.le_of_ble_eq_true rfl) (Nat.le_of_ble_eq_true rfl) d_K_sumAt_42 (⟨rfl, s3K⟩)

set_option maxHeartbeats 4000000 in
set_option maxRecDepth 100000 in
theorem c_hasVar (l : Launch) (G : xG) (A : Nat → Prop) (ws : va_W) (a j : Nat) (x : KK) (hc : isC G ws a x) (hj : j < 60) : Met l y_K_hasVariable (cw_K_hasVariable :: TW) { frames := 1, cells := 0, slots := 0, locals := 26 } (va_Pc [.ref a, .int (nI j)] (x_P G A ws)) (qI G A (fun r w9 => ws = w9 ∧ ((r = nI 1 ∧ (x.1 j ≠ 0 ∨ x.2.1 j ≠ 0 ∨ x.2.2 j ≠ 0)) ∨ (r = nI 0 ∧ ¬ (x.1 j ≠ 0 ∨ x.2.1 j ≠ 0 ∨ x.2.2 j ≠ 0))))) 0 0 A := by
  refine Met.ofW (cc := b_K_hasVariable) (maxL := 2) (ret := (some .boolean)) (by decide) rfl ?_
  intro p e s m args below meth c s₁ B hml hv
  obtain ⟨rfl, hE, hA, hP, hD⟩ := hv
  have hx := B.exec
  have hb := B.bytes
  have hr := B.returns
  have ht : ∀ w ∈ TW, w.before _ s = true := fun w h => atoms_spec (ws := cw_K_hasVariable :: TW) B.pre w (List.mem_cons_of_mem _ h)
  have hown : s.vm.findClass R_K = some m.cls := findClass_of_methodNamed B.named
  have hlocks := B.notSynchronized
  have hK := hE.1
  have hS : va_S A s.heap s.heap [] := va_S.rf
  have hl := lv_entry ([.ref a, .int (nI j)]) (n := 2) (Nat.le_of_ble_eq_true rfl)
  rw [lg_entry_eq]
  generalize (lg_sl ([.ref a, .int (nI j)]) ++ List.replicate (2 - (lg_sl ([.ref a, .int (nI j)])).length) Slot.unset).toArray = ls at hl ⊢
  have hl : lv_has ls 2 [(0, .ref a), (1, .int (nI j))] := hl
  obtain ⟨kK, xaK, yaK, zaK, c0K, s1K, s2K, s3K⟩ := id hc
  obtain ⟨kxK, jxK, cxK, fxK, pxK, qxK, nxK, oxK, exK, bxK⟩ := id s1K
  obtain ⟨kyK, jyK, cyK, fyK, pyK, qyK, nyK, oyK, eyK, byK⟩ := id s2K
  obtain ⟨kzK, jzK, czK, fzK, pzK, qzK, nzK, ozK, ezK, bzK⟩ := id s3K
  have wxK := bxK j hj
  have wyK := byK j hj
  have wzK := bzK j hj
  refine lv_aload_n hx hb d_K_hasVariable_0 rfl (lv_at hl 0 rfl) ?_
  refine va_get (D := xD G) (ci := 4) (C := R_K) (T := F_K) (N := 3) hx hb ht in_K hown hK hP kK c0K rfl 0 (by decide) (ht _ k_fl_K_7) (fun _ h9 => h9) rfl d_K_hasVariable_1 ?_
  refine va_get (D := xD G) (ci := 1) (C := R_S) (T := F_S) (N := 1) hx hb ht in_S hown hK hP kxK pxK rfl 0 (by decide) (ht _ k_fl_K_31) (fun _ h9 => h9) rfl d_K_hasVariable_4 ?_
  refine lv_iload_n hx hb d_K_hasVariable_7 rfl (lv_at hl 1 rfl) ?_
  refine x_iald hx hb hK hP qxK j rfl (by omega) (by omega) d_K_hasVariable_8 ?_
  refine x_top (nI (x.1 j)) (exK j hj) ?_
  refine x_if_ne hx hb (x.1 j) rfl (by omega) (tgt := 36) d_K_hasVariable_9 (by decide) (fun c1 => ?_) (fun c1 => ?_)
  · refine lv_iconst (v := (nI 1)) hx hb d_K_hasVariable_36 (by decide) ?_
    refine lv_goto (tgt := 41) hx hb d_K_hasVariable_37 (by decide) ?_
    exact x_zret hx hb hr hlocks hS hP hD (Nat.le_of_ble_eq_true rfl) (Nat.le_of_ble_eq_true rfl) d_K_hasVariable_41 rfl (⟨rfl, Or.inl ⟨rfl, Or.inl c1⟩⟩)
  · refine lv_aload_n hx hb d_K_hasVariable_12 rfl (lv_at hl 0 rfl) ?_
    refine va_get (D := xD G) (ci := 4) (C := R_K) (T := F_K) (N := 3) hx hb ht in_K hown hK hP kK c0K rfl 1 (by decide) (ht _ k_fl_K_13) (fun _ h9 => h9) rfl d_K_hasVariable_13 ?_
    refine va_get (D := xD G) (ci := 1) (C := R_S) (T := F_S) (N := 1) hx hb ht in_S hown hK hP kyK pyK rfl 0 (by decide) (ht _ k_fl_K_31) (fun _ h9 => h9) rfl d_K_hasVariable_16 ?_
    refine lv_iload_n hx hb d_K_hasVariable_19 rfl (lv_at hl 1 rfl) ?_
    refine x_iald hx hb hK hP qyK j rfl (by omega) (by omega) d_K_hasVariable_20 ?_
    refine x_top (nI (x.2.1 j)) (eyK j hj) ?_
    refine x_if_ne hx hb (x.2.1 j) rfl (by omega) (tgt := 36) d_K_hasVariable_21 (by decide) (fun c2 => ?_) (fun c2 => ?_)
    · refine lv_iconst (v := (nI 1)) hx hb d_K_hasVariable_36 (by decide) ?_
      refine lv_goto (tgt := 41) hx hb d_K_hasVariable_37 (by decide) ?_
      exact x_zret hx hb hr hlocks hS hP hD (Nat.le_of_ble_eq_true rfl) (Nat.le_of_ble_eq_true rfl) d_K_hasVariable_41 rfl (⟨rfl, Or.inl ⟨rfl, Or.inr (Or.inl c2)⟩⟩)
    · refine lv_aload_n hx hb d_K_hasVariable_24 rfl (lv_at hl 0 rfl) ?_
      refine va_get (D := xD G) (ci := 4) (C := R_K) (T := F_K) (N := 3) hx hb ht in_K hown hK hP kK c0K rfl 2 (by decide) (ht _ k_fl_K_16) (fun _ h9 => h9) rfl d_K_hasVariable_25 ?_
      refine va_get (D := xD G) (ci := 1) (C := R_S) (T := F_S) (N := 1) hx hb ht in_S hown hK hP kzK pzK rfl 0 (by decide) (ht _ k_fl_K_31) (fun _ h9 => h9) rfl d_K_hasVariable_28 ?_
      refine lv_iload_n hx hb d_K_hasVariable_31 rfl (lv_at hl 1 rfl) ?_
      refine x_iald hx hb hK hP qzK j rfl (by omega) (by omega) d_K_hasVariable_32 ?_
      refine x_top (nI (x.2.2 j)) (ezK j hj) ?_
      refine x_if_eq hx hb (x.2.2 j) rfl (by omega) (tgt := 40) d_K_hasVariable_33 (by decide) (fun c3 => ?_) (fun c3 => ?_)
      · refine lv_iconst (v := (nI 0)) hx hb d_K_hasVariable_40 (by decide) ?_
        exact x_zret hx hb hr hlocks hS hP hD (Nat.le_of_ble_eq_true rfl) (Nat.le_of_ble_eq_true rfl) d_K_hasVariable_41 rfl (⟨rfl, Or.inr ⟨rfl, by omega⟩⟩)
      · refine lv_iconst (v := (nI 1)) hx hb d_K_hasVariable_36 (by decide) ?_
        refine lv_goto (tgt := 41) hx hb d_K_hasVariable_37 (by decide) ?_
        exact x_zret hx hb hr hlocks hS hP hD (Nat.le_of_ble_eq_true rfl) (Nat.le_of_ble_eq_true rfl) d_K_hasVariable_41 rfl (⟨rfl, Or.inl ⟨rfl, Or.inr (Or.inr c3)⟩⟩)
