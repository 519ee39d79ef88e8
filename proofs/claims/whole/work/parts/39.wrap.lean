/-! the law's own small methods -/
def ncP (U : State) : Prop := va_Nc "java/lang/IllegalStateException" "java/lang/IllegalArgumentException" U ∧ va_Nc "java/lang/UnsupportedOperationException" "java/util/NoSuchElementException" U ∧ va_Nc "java/lang/IllegalStateException" "java/util/NoSuchElementException" U ∧ va_Nc "java/lang/IllegalArgumentException" "java/lang/IllegalStateException" U ∧ va_Nc "java/util/NoSuchElementException" "java/lang/IllegalStateException" U ∧ va_Nc "java/lang/IllegalArgumentException" "java/util/NoSuchElementException" U
theorem ncP.moved {u U : State} (hvm : u.vm.Alike U.vm) (h : ncP u) : ncP U := ⟨h.1.moved hvm, h.2.1.moved hvm, h.2.2.1.moved hvm, h.2.2.2.1.moved hvm, h.2.2.2.2.1.moved hvm, h.2.2.2.2.2.moved hvm⟩
def wP (G : xG) (A : Nat → Prop) (ws : va_W) (out : Nat) (f : Nat → Int64) (U : State) : Prop := x_P G A ws U ∧ va_P (xD G) CL [(out, aJ G 1 f)] U.heap ∧ ¬ A out ∧ ncP U
theorem wP_blind {G : xG} {A : Nat → Prop} {ws : va_W} {out : Nat} {f : Nat → Int64} {av : List Value} : FrameBlind (va_Pc av (wP G A ws out f)) := by
  intro a U g mk h
  obtain ⟨h1, ⟨h2, h3, h4, h5⟩, h6, h7, h8⟩ := h
  exact ⟨h1, ⟨x_E.same (u := U) (U := U.calling g mk a) rfl h2, h3, h4, h5⟩, h6, h7, ncP.moved (u := U) (U := U.calling g mk a) (Vm.Alike.refl U.vm) h8⟩
abbrev wB (G : xG) (A : Nat → Prop) (out : Nat) : va_W × (Nat → Int64) → State → Prop := fun u t => x_B G A u.1 t ∧ va_P (xD G) CL [(out, aJ G 1 u.2)] t.heap
abbrev wA (A : Nat → Prop) (out : Nat) : Nat → Prop := fun q => A q ∨ q = out
theorem sgl {x y : Nat × va_E} {k : Nat} (h : ([x] : va_W)[k]? = some y) : k = 0 ∧ y = x := by
  have h1 : k < 1 := (List.getElem?_eq_some_iff.mp h).1
  have h2 : k = 0 := by omega
  subst h2
  exact ⟨rfl, (Option.some.inj h).symm⟩
theorem keepO {G : xG} {out : Nat} {e : va_E} {H H1 : Heap} {A : Nat → Prop} (h : va_P (xD G) CL [(out, e)] H) (hq : ∀ q : Nat, q < H.size → ¬ A q → H1[q]? = H[q]?) (ho : ¬ A out) : va_P (xD G) CL [(out, e)] H1 := by
  refine h.kept (fun k q hk => ?_)
  have hl := (h k q hk).lt
  obtain ⟨rfl, rfl⟩ := sgl hk
  exact hq _ hl ho
theorem set_last {w : va_W} {x y : Nat × va_E} : (w ++ [x]).set w.length y = w ++ [y] := by
  apply List.ext_getElem?
  intro i
  by_cases e : w.length = i
  · subst e
    rw [w_eq w_new0, w_new0]
  · rw [List.getElem?_set_ne e]
    by_cases l : i < w.length
    · rw [List.getElem?_append_left l, List.getElem?_append_left l]
    · rw [List.getElem?_eq_none (by simp; omega), List.getElem?_eq_none (by simp; omega)]
theorem D_out {A : Nat → Prop} {w : va_W} {out : Nat} {e : va_E} (h : va_D A w) (ho : ¬ A out) : va_D (wA A out) (w ++ [(out, e)]) := by
  refine (h.weaken (fun _ _ _ q => Or.inl q)).app ⟨fun i j p q hi hj _ => ?_, fun k q hk => ?_⟩ (fun i j p q hi hj he => ?_)
  · rw [(sgl hi).1, (sgl hj).1]
  · rw [(sgl hk).2]; exact Or.inr rfl
  · rw [(sgl hj).2] at he
    have he : p.1 = out := he
    exact ho (by rw [← he]; exact h.2 i p hi)

set_option maxHeartbeats 4000000 in
set_option maxRecDepth 100000 in
theorem w_expression (l : Launch) (G : xG) (A : Nat → Prop) (ws : va_W) (hst : l.stackTraces = false) (o z u lv le lk : Nat) (V : List VV) (E : List EE) (K : List KK) (inp : Nat) (w d : Nat → Nat) (wV wC : Nat) (hR : CCs G ws o z u lv le lk V E K inp w d wV wC) (hI : okI V E K inp wV wC) (x0 x1 x2 x3 : Int32) (out : Nat) (f : Nat → Int64) : Met l y_L_expression (cw_L_expression :: TW) { frames := 14, cells := 40, slots := 2000, locals := 364 } (va_Pc [.ref o, .int x0, .int x1, .int x2, .int x3, .ref out] (wP G A ws out f)) (va_Qi (fun r (u9 : va_W × (Nat → Int64)) => (r = nI 0 ∧ ∃ v9 : Int32, u9.2 0 = v9.toInt64 ∧ v9 = nI E.length ∧ ∃ kq, x0 = nI kq ∧ wfd kq E.length x1 x2 x3 ∧ room kq V E K x1 x2 x3 ∧ CCs G u9.1 o z u lv le lk (exS kq V E K inp x1 x2 x3).1 (exS kq V E K inp x1 x2 x3).2.1 (exS kq V E K inp x1 x2 x3).2.2.1 (exS kq V E K inp x1 x2 x3).2.2.2 w d wV wC) ∨ (r = nI 1 ∧ CCs G u9.1 o z u lv le lk V E K inp w d wV wC ∧ (¬ wfx E.length x0 x1 x2 x3)) ∨ (r = nI 2 ∧ CCs G u9.1 o z u lv le lk V E K inp w d wV wC ∧ (∃ kq, x0 = nI kq ∧ wfd kq E.length x1 x2 x3 ∧ ¬ room kq V E K x1 x2 x3))) (wB G A out) (wA A out)) 40 2000 (wA A out) := by
  refine va_MetW (cc := b_L_expression) (maxL := 7) (ret := (some .int)) (by decide) rfl ?_
  intro p e s m args below meth c s₁ B hml hv
  obtain ⟨rfl, ⟨hE, hA, hP, hD⟩, hPo, hoA, hN⟩ := hv
  have hx := B.exec
  have hb := B.bytes
  have hr := B.returns
  have ht : ∀ w ∈ TW, w.before _ s = true := fun w h => atoms_spec (ws := cw_L_expression :: TW) B.pre w (List.mem_cons_of_mem _ h)
  have hown : s.vm.findClass R_L = some m.cls := findClass_of_methodNamed B.named
  have hlocks := B.notSynchronized
  have htab := vx_table (x := y_L_expression) B (atoms_spec (ws := cw_L_expression :: TW) B.pre _ List.mem_cons_self)
  have hK := hE.1
  have hS : va_S (wA A out) s.heap s.heap [] := va_S.rf
  obtain ⟨wa0, da0, ho0⟩ := CCs.o hR
  have hl := lv_entry ([.ref o, .int x0, .int x1, .int x2, .int x3, .ref out]) (n := 7) (Nat.le_of_ble_eq_true rfl)
  rw [lg_entry_eq]
  generalize (lg_sl ([.ref o, .int x0, .int x1, .int x2, .int x3, .ref out]) ++ List.replicate (7 - (lg_sl ([.ref o, .int x0, .int x1, .int x2, .int x3, .ref out])).length) Slot.unset).toArray = ls at hl ⊢
  have hl : lv_has ls 7 [(0, .ref o), (1, .int x0), (2, .int x1), (3, .int x2), (4, .int x3), (5, .ref out)] := hl
  refine lv_aload hx hb d_L_expression_0 (lv_at hl 5 rfl) ?_
  refine lv_iconst (v := (nI 0)) hx hb d_L_expression_2 (by decide) ?_
  refine lv_aload_n hx hb d_L_expression_3 rfl (lv_at hl 0 rfl) ?_
  refine lv_iload_n hx hb d_L_expression_4 rfl (lv_at hl 1 rfl) ?_
  refine lv_iload_n hx hb d_L_expression_5 rfl (lv_at hl 2 rfl) ?_
  refine lv_iload_n hx hb d_L_expression_6 rfl (lv_at hl 3 rfl) ?_
  refine lv_iload hx hb d_L_expression_7 (lv_at hl 4 rfl) ?_
  refine vx_calli (A0 := wA A out) (A1 := A) (AX := A) (vx_runV (As := [.int x0, .int x1, .int x2, .int x3]) (rest := [.int (nI 0), .ref out]) ⟨hx, hb, hml, hown, ht⟩ (c_expression l G A ws hst o z u lv le lk V E K inp w d wV wC hR hI x0 x1 x2 x3) (cwV 4 ht (TW_V k_ml_L_7 k_im_C_expression k_se_C_expression k_in_C k_code_C_expression) rfl rfl rfl hv_C_expression ⟨Nat.le_of_ble_eq_true rfl, Nat.le_of_ble_eq_true rfl⟩) ⟨x_blind, va_recv hK hP rfl ho0, x_pre hE hA va_S.rf hP hD⟩ rfl rfl hl.1 rfl (lv_room (Nat.le_of_ble_eq_true rfl)) d_L_expression_9 ⟨Nat.le_of_ble_eq_true rfl, Nat.le_of_ble_eq_true rfl⟩) hS (fun _ _ h => Or.inl h) (fun _ h => Or.inl h) (fun _ _ h => Or.inl h) (fun Ex ce q9 w9 t9 H locs h9 _ _ hB hz hq hS hce hcv hcl => ?_) (fun r w9 t9 H locs h9 _ hp hB hz hq hS => ?_)
  · obtain ⟨hp, hP1, hD1⟩ := hB
    rw [h9] at hP1
    have hPo1 := keepO hPo hq hoA
    obtain ⟨hR1, ⟨rfl, c1⟩ | ⟨rfl, c1⟩⟩ := hp
    · refine vx_catch (own := R_L) hown [] ⟨0, 14, 17, 13⟩ [⟨0, 14, 21, 15⟩] htab (fun z hz => nomatch hz) rfl (by decide) (ht _ k_cl_L_13) (va_Nw.use rfl (hE.2.2.2.2.2.2.2 _ k_ca_IllegalArgumentException_IllegalArgumentException)) hce hcv hcl ?_
      refine lv_astore (lv' := [(6, .ref q9), (0, .ref o), (1, .int x0), (2, .int x1), (3, .int x2), (4, .int x3), (5, .ref out)]) hx hb d_L_expression_17 hl (by decide) rfl (fun ls hl => ?_)
      refine lv_iconst (v := (nI 1)) hx hb d_L_expression_19 (by decide) ?_
      exact W.widen (Nat.le_of_ble_eq_true rfl) (Nat.le_of_ble_eq_true rfl) (W.iret (v := nI 1) hx hb hr (fun t8 h8 _ => ⟨⟨nI 1, (w9, f), rfl, Or.inr (Or.inl ⟨rfl, hR1, c1⟩), ⟨by rw [h8]; exact hP1, hD1⟩, by rw [h8]; exact hPo1⟩, hS.F h8⟩) hS.2.2 d_L_expression_20 hlocks)
    · refine vx_catch (own := R_L) hown [⟨0, 14, 17, 13⟩] ⟨0, 14, 21, 15⟩ [] htab (fun z hz => Or.inr (by rw [List.mem_singleton.mp hz]; exact ⟨by decide, _, ht _ k_cl_L_13, hN.1⟩)) rfl (by decide) (ht _ k_cl_L_15) (va_Nw.use rfl (hE.2.2.2.2.2.2.2 _ k_ca_IllegalStateException_IllegalStateException)) hce hcv hcl ?_
      refine lv_astore (lv' := [(6, .ref q9), (0, .ref o), (1, .int x0), (2, .int x1), (3, .int x2), (4, .int x3), (5, .ref out)]) hx hb d_L_expression_21 hl (by decide) rfl (fun ls hl => ?_)
      refine lv_iconst (v := (nI 2)) hx hb d_L_expression_23 (by decide) ?_
      exact W.widen (Nat.le_of_ble_eq_true rfl) (Nat.le_of_ble_eq_true rfl) (W.iret (v := nI 2) hx hb hr (fun t8 h8 _ => ⟨⟨nI 2, (w9, f), rfl, Or.inr (Or.inr ⟨rfl, hR1, c1⟩), ⟨by rw [h8]; exact hP1, hD1⟩, by rw [h8]; exact hPo1⟩, hS.F h8⟩) hS.2.2 d_L_expression_24 hlocks)
  · obtain ⟨hP1, hD1⟩ := hB
    rw [h9] at hP1
    have hPo1 := keepO hPo hq hoA
    have hPc := hP1.app hPo1
    have hDc := D_out (e := aJ G 1 f) hD1 hoA
    refine lv_i2l (v := r.toInt64) hx hb d_L_expression_12 rfl ?_
    refine va_last hx hb hK hPc hDc hS w9.length 1 w_new0 rfl (vp_in_nI (by decide) (by decide)) d_L_expression_13 (fun H locs hP2 hD2 hS => ?_)
    rw [set_last] at hP2
    have hP3 : va_P (xD G) CL w9 H := hP2.by id (fun k q hk => w_app hk)
    have hPo3 : va_P (xD G) CL [(out, aJ G 1 (vp_updL f (nI 0).toNatClampNeg r.toInt64))] H := hP2.by (fun _ => w9.length) (fun k q hk => by rw [(sgl hk).2]; exact w_new0)
    refine lv_goto (tgt := 25) hx hb d_L_expression_14 (by decide) ?_
    refine lv_iconst (v := (nI 0)) hx hb d_L_expression_25 (by decide) ?_
    exact W.widen (Nat.le_of_ble_eq_true rfl) (Nat.le_of_ble_eq_true rfl) (W.iret (v := nI 0) hx hb hr (fun t8 h8 _ => ⟨⟨nI 0, (w9, vp_updL f (nI 0).toNatClampNeg r.toInt64), rfl, Or.inl ⟨rfl, r, by show vp_updL f (nI 0).toNatClampNeg r.toInt64 0 = _; rw [nI_clamp (by decide)]; exact pk_uLs, hp⟩, ⟨by rw [h8]; exact hP3, hD1⟩, by rw [h8]; exact hPo3⟩, hS.F h8⟩) hS.2.2 d_L_expression_26 hlocks)

set_option maxHeartbeats 4000000 in
set_option maxRecDepth 100000 in
theorem w_claim (l : Launch) (G : xG) (A : Nat → Prop) (ws : va_W) (hst : l.stackTraces = false) (o z u lv le lk : Nat) (V : List VV) (E : List EE) (K : List KK) (inp : Nat) (w d : Nat → Nat) (wV wC : Nat) (hR : CCs G ws o z u lv le lk V E K inp w d wV wC) (hI : okI V E K inp wV wC) (x0 x1 x2 : Int32) (out : Nat) (f : Nat → Int64) : Met l y_L_claim (cw_L_claim :: TW) { frames := 14, cells := 40, slots := 2000, locals := 364 } (va_Pc [.ref o, .int x0, .int x1, .int x2, .ref out] (wP G A ws out f)) (va_Qi (fun r (u9 : va_W × (Nat → Int64)) => (r = nI 0 ∧ ∃ v9 : Int32, u9.2 0 = v9.toInt64 ∧ v9 = nI K.length ∧ clw E.length x0 x1 x2 ∧ K.length < 80 ∧ CCs G u9.1 o z u lv le lk V E (K ++ [clK E x0 x1 x2]) inp w d wV wC) ∨ (r = nI 1 ∧ CCs G u9.1 o z u lv le lk V E K inp w d wV wC ∧ (¬ clw E.length x0 x1 x2)) ∨ (r = nI 2 ∧ CCs G u9.1 o z u lv le lk V E K inp w d wV wC ∧ (clw E.length x0 x1 x2 ∧ ¬ K.length < 80))) (wB G A out) (wA A out)) 40 2000 (wA A out) := by
  refine va_MetW (cc := b_L_claim) (maxL := 6) (ret := (some .int)) (by decide) rfl ?_
  intro p e s m args below meth c s₁ B hml hv
  obtain ⟨rfl, ⟨hE, hA, hP, hD⟩, hPo, hoA, hN⟩ := hv
  have hx := B.exec
  have hb := B.bytes
  have hr := B.returns
  have ht : ∀ w ∈ TW, w.before _ s = true := fun w h => atoms_spec (ws := cw_L_claim :: TW) B.pre w (List.mem_cons_of_mem _ h)
  have hown : s.vm.findClass R_L = some m.cls := findClass_of_methodNamed B.named
  have hlocks := B.notSynchronized
  have htab := vx_table (x := y_L_claim) B (atoms_spec (ws := cw_L_claim :: TW) B.pre _ List.mem_cons_self)
  have hK := hE.1
  have hS : va_S (wA A out) s.heap s.heap [] := va_S.rf
  obtain ⟨wa0, da0, ho0⟩ := CCs.o hR
  have hl := lv_entry ([.ref o, .int x0, .int x1, .int x2, .ref out]) (n := 6) (Nat.le_of_ble_eq_true rfl)
  rw [lg_entry_eq]
  generalize (lg_sl ([.ref o, .int x0, .int x1, .int x2, .ref out]) ++ List.replicate (6 - (lg_sl ([.ref o, .int x0, .int x1, .int x2, .ref out])).length) Slot.unset).toArray = ls at hl ⊢
  have hl : lv_has ls 6 [(0, .ref o), (1, .int x0), (2, .int x1), (3, .int x2), (4, .ref out)] := hl
  refine lv_aload hx hb d_L_claim_0 (lv_at hl 4 rfl) ?_
  refine lv_iconst (v := (nI 0)) hx hb d_L_claim_2 (by decide) ?_
  refine lv_aload_n hx hb d_L_claim_3 rfl (lv_at hl 0 rfl) ?_
  refine lv_iload_n hx hb d_L_claim_4 rfl (lv_at hl 1 rfl) ?_
  refine lv_iload_n hx hb d_L_claim_5 rfl (lv_at hl 2 rfl) ?_
  refine lv_iload_n hx hb d_L_claim_6 rfl (lv_at hl 3 rfl) ?_
  refine vx_calli (A0 := wA A out) (A1 := A) (AX := A) (vx_runV (As := [.int x0, .int x1, .int x2]) (rest := [.int (nI 0), .ref out]) ⟨hx, hb, hml, hown, ht⟩ (c_claim l G A ws hst o z u lv le lk V E K inp w d wV wC hR hI x0 x1 x2) (cwV 3 ht (TW_V k_ml_L_17 k_im_C_claim k_se_C_claim k_in_C k_code_C_claim) rfl rfl rfl hv_C_claim ⟨Nat.le_of_ble_eq_true rfl, Nat.le_of_ble_eq_true rfl⟩) ⟨x_blind, va_recv hK hP rfl ho0, x_pre hE hA va_S.rf hP hD⟩ rfl rfl hl.1 rfl (lv_room (Nat.le_of_ble_eq_true rfl)) d_L_claim_7 ⟨Nat.le_of_ble_eq_true rfl, Nat.le_of_ble_eq_true rfl⟩) hS (fun _ _ h => Or.inl h) (fun _ h => Or.inl h) (fun _ _ h => Or.inl h) (fun Ex ce q9 w9 t9 H locs h9 _ _ hB hz hq hS hce hcv hcl => ?_) (fun r w9 t9 H locs h9 _ hp hB hz hq hS => ?_)
  · obtain ⟨hp, hP1, hD1⟩ := hB
    rw [h9] at hP1
    have hPo1 := keepO hPo hq hoA
    obtain ⟨hR1, ⟨rfl, c1⟩ | ⟨rfl, c1⟩⟩ := hp
    · refine vx_catch (own := R_L) hown [] ⟨0, 12, 15, 13⟩ [⟨0, 12, 19, 15⟩] htab (fun z hz => nomatch hz) rfl (by decide) (ht _ k_cl_L_13) (va_Nw.use rfl (hE.2.2.2.2.2.2.2 _ k_ca_IllegalArgumentException_IllegalArgumentException)) hce hcv hcl ?_
      refine lv_astore (lv' := [(5, .ref q9), (0, .ref o), (1, .int x0), (2, .int x1), (3, .int x2), (4, .ref out)]) hx hb d_L_claim_15 hl (by decide) rfl (fun ls hl => ?_)
      refine lv_iconst (v := (nI 1)) hx hb d_L_claim_17 (by decide) ?_
      exact W.widen (Nat.le_of_ble_eq_true rfl) (Nat.le_of_ble_eq_true rfl) (W.iret (v := nI 1) hx hb hr (fun t8 h8 _ => ⟨⟨nI 1, (w9, f), rfl, Or.inr (Or.inl ⟨rfl, hR1, c1⟩), ⟨by rw [h8]; exact hP1, hD1⟩, by rw [h8]; exact hPo1⟩, hS.F h8⟩) hS.2.2 d_L_claim_18 hlocks)
    · refine vx_catch (own := R_L) hown [⟨0, 12, 15, 13⟩] ⟨0, 12, 19, 15⟩ [] htab (fun z hz => Or.inr (by rw [List.mem_singleton.mp hz]; exact ⟨by decide, _, ht _ k_cl_L_13, hN.1⟩)) rfl (by decide) (ht _ k_cl_L_15) (va_Nw.use rfl (hE.2.2.2.2.2.2.2 _ k_ca_IllegalStateException_IllegalStateException)) hce hcv hcl ?_
      refine lv_astore (lv' := [(5, .ref q9), (0, .ref o), (1, .int x0), (2, .int x1), (3, .int x2), (4, .ref out)]) hx hb d_L_claim_19 hl (by decide) rfl (fun ls hl => ?_)
      refine lv_iconst (v := (nI 2)) hx hb d_L_claim_21 (by decide) ?_
      exact W.widen (Nat.le_of_ble_eq_true rfl) (Nat.le_of_ble_eq_true rfl) (W.iret (v := nI 2) hx hb hr (fun t8 h8 _ => ⟨⟨nI 2, (w9, f), rfl, Or.inr (Or.inr ⟨rfl, hR1, c1⟩), ⟨by rw [h8]; exact hP1, hD1⟩, by rw [h8]; exact hPo1⟩, hS.F h8⟩) hS.2.2 d_L_claim_22 hlocks)
  · obtain ⟨hP1, hD1⟩ := hB
    rw [h9] at hP1
    have hPo1 := keepO hPo hq hoA
    have hPc := hP1.app hPo1
    have hDc := D_out (e := aJ G 1 f) hD1 hoA
    refine lv_i2l (v := r.toInt64) hx hb d_L_claim_10 rfl ?_
    refine va_last hx hb hK hPc hDc hS w9.length 1 w_new0 rfl (vp_in_nI (by decide) (by decide)) d_L_claim_11 (fun H locs hP2 hD2 hS => ?_)
    rw [set_last] at hP2
    have hP3 : va_P (xD G) CL w9 H := hP2.by id (fun k q hk => w_app hk)
    have hPo3 : va_P (xD G) CL [(out, aJ G 1 (vp_updL f (nI 0).toNatClampNeg r.toInt64))] H := hP2.by (fun _ => w9.length) (fun k q hk => by rw [(sgl hk).2]; exact w_new0)
    refine lv_goto (tgt := 23) hx hb d_L_claim_12 (by decide) ?_
    refine lv_iconst (v := (nI 0)) hx hb d_L_claim_23 (by decide) ?_
    exact W.widen (Nat.le_of_ble_eq_true rfl) (Nat.le_of_ble_eq_true rfl) (W.iret (v := nI 0) hx hb hr (fun t8 h8 _ => ⟨⟨nI 0, (w9, vp_updL f (nI 0).toNatClampNeg r.toInt64), rfl, Or.inl ⟨rfl, r, by show vp_updL f (nI 0).toNatClampNeg r.toInt64 0 = _; rw [nI_clamp (by decide)]; exact pk_uLs, hp⟩, ⟨by rw [h8]; exact hP3, hD1⟩, by rw [h8]; exact hPo3⟩, hS.F h8⟩) hS.2.2 d_L_claim_24 hlocks)

set_option maxHeartbeats 4000000 in
set_option maxRecDepth 100000 in
theorem w_give (l : Launch) (G : xG) (A : Nat → Prop) (ws : va_W) (hst : l.stackTraces = false) (o z u lv le lk : Nat) (V : List VV) (E : List EE) (K : List KK) (inp : Nat) (w d : Nat → Nat) (wV wC : Nat) (hR : CCs G ws o z u lv le lk V E K inp w d wV wC) (hI : okI V E K inp wV wC) (x1 x2 : Int32) (out : Nat) (f : Nat → Int64) : Met l y_L_give (cw_L_give :: TW) { frames := 14, cells := 40, slots := 2000, locals := 364 } (va_Pc [.ref o, .int x1, .int x2, .ref out] (wP G A ws out f)) (va_Qi (fun r (u9 : va_W × (Nat → Int64)) => (r = nI 0 ∧ ∃ v9 : Int32, u9.2 0 = v9.toInt64 ∧ ∃ j, j < E.length ∧ x1 = nI j ∧ eI E j ≠ 0 ∧ v9 = nI (vAt V (eI E j)).2.2.2 ∧ CCs G u9.1 o z u lv le lk (V.set (eI E j) (gv (vAt V (eI E j)) (rm x2))) E K inp w d wV wC) ∨ (r = nI 1 ∧ CCs G u9.1 o z u lv le lk V E K inp w d wV wC ∧ (¬ md E.length x1)) ∨ (r = nI 2 ∧ CCs G u9.1 o z u lv le lk V E K inp w d wV wC ∧ (∃ j, j < E.length ∧ x1 = nI j ∧ eI E j = 0))) (wB G A out) (wA A out)) 40 2000 (wA A out) := by
  refine va_MetW (cc := b_L_give) (maxL := 5) (ret := (some .int)) (by decide) rfl ?_
  intro p e s m args below meth c s₁ B hml hv
  obtain ⟨rfl, ⟨hE, hA, hP, hD⟩, hPo, hoA, hN⟩ := hv
  have hx := B.exec
  have hb := B.bytes
  have hr := B.returns
  have ht : ∀ w ∈ TW, w.before _ s = true := fun w h => atoms_spec (ws := cw_L_give :: TW) B.pre w (List.mem_cons_of_mem _ h)
  have hown : s.vm.findClass R_L = some m.cls := findClass_of_methodNamed B.named
  have hlocks := B.notSynchronized
  have htab := vx_table (x := y_L_give) B (atoms_spec (ws := cw_L_give :: TW) B.pre _ List.mem_cons_self)
  have hK := hE.1
  have hS : va_S (wA A out) s.heap s.heap [] := va_S.rf
  obtain ⟨wa0, da0, ho0⟩ := CCs.o hR
  have hl := lv_entry ([.ref o, .int x1, .int x2, .ref out]) (n := 5) (Nat.le_of_ble_eq_true rfl)
  rw [lg_entry_eq]
  generalize (lg_sl ([.ref o, .int x1, .int x2, .ref out]) ++ List.replicate (5 - (lg_sl ([.ref o, .int x1, .int x2, .ref out])).length) Slot.unset).toArray = ls at hl ⊢
  have hl : lv_has ls 5 [(0, .ref o), (1, .int x1), (2, .int x2), (3, .ref out)] := hl
  refine lv_aload_n hx hb d_L_give_0 rfl (lv_at hl 3 rfl) ?_
  refine lv_iconst (v := (nI 0)) hx hb d_L_give_1 (by decide) ?_
  refine lv_aload_n hx hb d_L_give_2 rfl (lv_at hl 0 rfl) ?_
  refine lv_iload_n hx hb d_L_give_3 rfl (lv_at hl 1 rfl) ?_
  refine lv_iload_n hx hb d_L_give_4 rfl (lv_at hl 2 rfl) ?_
  refine vx_calli (A0 := wA A out) (A1 := A) (AX := A) (vx_runV (As := [.int x1, .int x2]) (rest := [.int (nI 0), .ref out]) ⟨hx, hb, hml, hown, ht⟩ (c_give l G A ws hst o z u lv le lk V E K inp w d wV wC hR hI x1 x2) (cwV 2 ht (TW_V k_ml_L_21 k_im_C_give k_se_C_give k_in_C k_code_C_give) rfl rfl rfl hv_C_give ⟨Nat.le_of_ble_eq_true rfl, Nat.le_of_ble_eq_true rfl⟩) ⟨x_blind, va_recv hK hP rfl ho0, x_pre hE hA va_S.rf hP hD⟩ rfl rfl hl.1 rfl (lv_room (Nat.le_of_ble_eq_true rfl)) d_L_give_5 ⟨Nat.le_of_ble_eq_true rfl, Nat.le_of_ble_eq_true rfl⟩) hS (fun _ _ h => Or.inl h) (fun _ h => Or.inl h) (fun _ _ h => Or.inl h) (fun Ex ce q9 w9 t9 H locs h9 _ _ hB hz hq hS hce hcv hcl => ?_) (fun r w9 t9 H locs h9 _ hp hB hz hq hS => ?_)
  · obtain ⟨hp, hP1, hD1⟩ := hB
    rw [h9] at hP1
    have hPo1 := keepO hPo hq hoA
    obtain ⟨hR1, ⟨rfl, c1⟩ | ⟨rfl, c1⟩⟩ := hp
    · refine vx_catch (own := R_L) hown [] ⟨0, 10, 13, 25⟩ [⟨0, 10, 17, 27⟩] htab (fun z hz => nomatch hz) rfl (by decide) (ht _ k_cl_L_25) (va_Nw.use rfl (hE.2.2.2.2.2.2.2 _ k_ca_NoSuchElementException_NoSuchElementException)) hce hcv hcl ?_
      refine lv_astore (lv' := [(4, .ref q9), (0, .ref o), (1, .int x1), (2, .int x2), (3, .ref out)]) hx hb d_L_give_13 hl (by decide) rfl (fun ls hl => ?_)
      refine lv_iconst (v := (nI 1)) hx hb d_L_give_15 (by decide) ?_
      exact W.widen (Nat.le_of_ble_eq_true rfl) (Nat.le_of_ble_eq_true rfl) (W.iret (v := nI 1) hx hb hr (fun t8 h8 _ => ⟨⟨nI 1, (w9, f), rfl, Or.inr (Or.inl ⟨rfl, hR1, c1⟩), ⟨by rw [h8]; exact hP1, hD1⟩, by rw [h8]; exact hPo1⟩, hS.F h8⟩) hS.2.2 d_L_give_16 hlocks)
    · refine vx_catch (own := R_L) hown [⟨0, 10, 13, 25⟩] ⟨0, 10, 17, 27⟩ [] htab (fun z hz => Or.inr (by rw [List.mem_singleton.mp hz]; exact ⟨by decide, _, ht _ k_cl_L_25, hN.2.1⟩)) rfl (by decide) (ht _ k_cl_L_27) (va_Nw.use rfl (hE.2.2.2.2.2.2.2 _ k_ca_UnsupportedOperationException_UnsupportedOperationException)) hce hcv hcl ?_
      refine lv_astore (lv' := [(4, .ref q9), (0, .ref o), (1, .int x1), (2, .int x2), (3, .ref out)]) hx hb d_L_give_17 hl (by decide) rfl (fun ls hl => ?_)
      refine lv_iconst (v := (nI 2)) hx hb d_L_give_19 (by decide) ?_
      exact W.widen (Nat.le_of_ble_eq_true rfl) (Nat.le_of_ble_eq_true rfl) (W.iret (v := nI 2) hx hb hr (fun t8 h8 _ => ⟨⟨nI 2, (w9, f), rfl, Or.inr (Or.inr ⟨rfl, hR1, c1⟩), ⟨by rw [h8]; exact hP1, hD1⟩, by rw [h8]; exact hPo1⟩, hS.F h8⟩) hS.2.2 d_L_give_20 hlocks)
  · obtain ⟨hP1, hD1⟩ := hB
    rw [h9] at hP1
    have hPo1 := keepO hPo hq hoA
    have hPc := hP1.app hPo1
    have hDc := D_out (e := aJ G 1 f) hD1 hoA
    refine lv_i2l (v := r.toInt64) hx hb d_L_give_8 rfl ?_
    refine va_last hx hb hK hPc hDc hS w9.length 1 w_new0 rfl (vp_in_nI (by decide) (by decide)) d_L_give_9 (fun H locs hP2 hD2 hS => ?_)
    rw [set_last] at hP2
    have hP3 : va_P (xD G) CL w9 H := hP2.by id (fun k q hk => w_app hk)
    have hPo3 : va_P (xD G) CL [(out, aJ G 1 (vp_updL f (nI 0).toNatClampNeg r.toInt64))] H := hP2.by (fun _ => w9.length) (fun k q hk => by rw [(sgl hk).2]; exact w_new0)
    refine lv_goto (tgt := 21) hx hb d_L_give_10 (by decide) ?_
    refine lv_iconst (v := (nI 0)) hx hb d_L_give_21 (by decide) ?_
    exact W.widen (Nat.le_of_ble_eq_true rfl) (Nat.le_of_ble_eq_true rfl) (W.iret (v := nI 0) hx hb hr (fun t8 h8 _ => ⟨⟨nI 0, (w9, vp_updL f (nI 0).toNatClampNeg r.toInt64), rfl, Or.inl ⟨rfl, r, by show vp_updL f (nI 0).toNatClampNeg r.toInt64 0 = _; rw [nI_clamp (by decide)]; exact pk_uLs, hp⟩, ⟨by rw [h8]; exact hP3, hD1⟩, by rw [h8]; exact hPo3⟩, hS.F h8⟩) hS.2.2 d_L_give_22 hlocks)

set_option maxHeartbeats 4000000 in
set_option maxRecDepth 100000 in
theorem w_solve (l : Launch) (G : xG) (A : Nat → Prop) (ws : va_W) (hst : l.stackTraces = false) (o z u lv le lk : Nat) (V : List VV) (E : List EE) (K : List KK) (inp : Nat) (w d : Nat → Nat) (wV wC : Nat) (hR : CCs G ws o z u lv le lk V E K inp w d wV wC) (hI : okI V E K inp wV wC) (out : Nat) (f : Nat → Int64) : Met l y_L_solve (cw_L_solve :: TW) { frames := 14, cells := 40, slots := 2000, locals := 364 } (va_Pc [.ref o, .ref out] (wP G A ws out f)) (va_Qi (fun r (u9 : va_W × (Nat → Int64)) => (r = nI 0 ∧ ∃ v9 : Int32, u9.2 0 = v9.toInt64 ∧ ∃ d' : Nat → Nat, fil V V.length 0 d = (true, d') ∧ v9 = nI (brk K d' K.length) ∧ CCs G u9.1 o z u lv le lk V E K inp d' w V.length K.length) ∨ (r = nI 1 ∧ ∃ d' : Nat → Nat, fil V V.length 0 d = (false, d') ∧ CCs G u9.1 o z u lv le lk V E K inp w d' wV wC)) (wB G A out) (wA A out)) 40 2000 (wA A out) := by
  refine va_MetW (cc := b_L_solve) (maxL := 3) (ret := (some .int)) (by decide) rfl ?_
  intro p e s m args below meth c s₁ B hml hv
  obtain ⟨rfl, ⟨hE, hA, hP, hD⟩, hPo, hoA, hN⟩ := hv
  have hx := B.exec
  have hb := B.bytes
  have hr := B.returns
  have ht : ∀ w ∈ TW, w.before _ s = true := fun w h => atoms_spec (ws := cw_L_solve :: TW) B.pre w (List.mem_cons_of_mem _ h)
  have hown : s.vm.findClass R_L = some m.cls := findClass_of_methodNamed B.named
  have hlocks := B.notSynchronized
  have htab := vx_table (x := y_L_solve) B (atoms_spec (ws := cw_L_solve :: TW) B.pre _ List.mem_cons_self)
  have hK := hE.1
  have hS : va_S (wA A out) s.heap s.heap [] := va_S.rf
  obtain ⟨wa0, da0, ho0⟩ := CCs.o hR
  have hl := lv_entry ([.ref o, .ref out]) (n := 3) (Nat.le_of_ble_eq_true rfl)
  rw [lg_entry_eq]
  generalize (lg_sl ([.ref o, .ref out]) ++ List.replicate (3 - (lg_sl ([.ref o, .ref out])).length) Slot.unset).toArray = ls at hl ⊢
  have hl : lv_has ls 3 [(0, .ref o), (1, .ref out)] := hl
  refine lv_aload_n hx hb d_L_solve_0 rfl (lv_at hl 1 rfl) ?_
  refine lv_iconst (v := (nI 0)) hx hb d_L_solve_1 (by decide) ?_
  refine lv_aload_n hx hb d_L_solve_2 rfl (lv_at hl 0 rfl) ?_
  refine vx_calli (A0 := wA A out) (A1 := A) (AX := A) (vx_runV (As := []) (rest := [.int (nI 0), .ref out]) ⟨hx, hb, hml, hown, ht⟩ (c_solve l G A ws hst o z u lv le lk V E K inp w d wV wC hR hI) (cwV 0 ht (TW_V k_ml_L_29 k_im_C_solve k_se_C_solve k_in_C k_code_C_solve) rfl rfl rfl hv_C_solve ⟨Nat.le_of_ble_eq_true rfl, Nat.le_of_ble_eq_true rfl⟩) ⟨x_blind, va_recv hK hP rfl ho0, x_pre hE hA va_S.rf hP hD⟩ rfl rfl hl.1 rfl (lv_room (Nat.le_of_ble_eq_true rfl)) d_L_solve_3 ⟨Nat.le_of_ble_eq_true rfl, Nat.le_of_ble_eq_true rfl⟩) hS (fun _ _ h => Or.inl h) (fun _ h => Or.inl h) (fun _ _ h => Or.inl h) (fun Ex ce q9 w9 t9 H locs h9 _ _ hB hz hq hS hce hcv hcl => ?_) (fun r w9 t9 H locs h9 _ hp hB hz hq hS => ?_)
  · obtain ⟨hp, hP1, hD1⟩ := hB
    rw [h9] at hP1
    have hPo1 := keepO hPo hq hoA
    obtain ⟨rfl, d', c1, hR1⟩ := hp
    refine vx_catch (own := R_L) hown [] ⟨0, 8, 11, 33⟩ [] htab (fun z hz => nomatch hz) rfl (by decide) (ht _ k_cl_L_33) (va_Nw.use rfl (hE.2.2.2.2.2.2.2 _ k_ca_ArithmeticException_ArithmeticException)) hce hcv hcl ?_
    refine lv_astore_n (lv' := [(2, .ref q9), (0, .ref o), (1, .ref out)]) hx hb d_L_solve_11 rfl hl (by decide) rfl (fun ls hl => ?_)
    refine lv_iconst (v := (nI 1)) hx hb d_L_solve_12 (by decide) ?_
    exact W.widen (Nat.le_of_ble_eq_true rfl) (Nat.le_of_ble_eq_true rfl) (W.iret (v := nI 1) hx hb hr (fun t8 h8 _ => ⟨⟨nI 1, (w9, f), rfl, Or.inr (⟨rfl, d', c1, hR1⟩), ⟨by rw [h8]; exact hP1, hD1⟩, by rw [h8]; exact hPo1⟩, hS.F h8⟩) hS.2.2 d_L_solve_13 hlocks)
  · obtain ⟨hP1, hD1⟩ := hB
    rw [h9] at hP1
    have hPo1 := keepO hPo hq hoA
    have hPc := hP1.app hPo1
    have hDc := D_out (e := aJ G 1 f) hD1 hoA
    refine lv_i2l (v := r.toInt64) hx hb d_L_solve_6 rfl ?_
    refine va_last hx hb hK hPc hDc hS w9.length 1 w_new0 rfl (vp_in_nI (by decide) (by decide)) d_L_solve_7 (fun H locs hP2 hD2 hS => ?_)
    rw [set_last] at hP2
    have hP3 : va_P (xD G) CL w9 H := hP2.by id (fun k q hk => w_app hk)
    have hPo3 : va_P (xD G) CL [(out, aJ G 1 (vp_updL f (nI 0).toNatClampNeg r.toInt64))] H := hP2.by (fun _ => w9.length) (fun k q hk => by rw [(sgl hk).2]; exact w_new0)
    refine lv_goto (tgt := 14) hx hb d_L_solve_8 (by decide) ?_
    refine lv_iconst (v := (nI 0)) hx hb d_L_solve_14 (by decide) ?_
    exact W.widen (Nat.le_of_ble_eq_true rfl) (Nat.le_of_ble_eq_true rfl) (W.iret (v := nI 0) hx hb hr (fun t8 h8 _ => ⟨⟨nI 0, (w9, vp_updL f (nI 0).toNatClampNeg r.toInt64), rfl, Or.inl ⟨rfl, r, by show vp_updL f (nI 0).toNatClampNeg r.toInt64 0 = _; rw [nI_clamp (by decide)]; exact pk_uLs, hp⟩, ⟨by rw [h8]; exact hP3, hD1⟩, by rw [h8]; exact hPo3⟩, hS.F h8⟩) hS.2.2 d_L_solve_15 hlocks)

set_option maxHeartbeats 4000000 in
set_option maxRecDepth 100000 in
theorem w_value (l : Launch) (G : xG) (A : Nat → Prop) (ws : va_W) (hst : l.stackTraces = false) (o z u lv le lk : Nat) (V : List VV) (E : List EE) (K : List KK) (inp : Nat) (w d : Nat → Nat) (wV wC : Nat) (hR : CCs G ws o z u lv le lk V E K inp w d wV wC) (hI : okI V E K inp wV wC) (x1 : Int32) (out : Nat) (f : Nat → Int64) : Met l y_L_value (cw_L_value :: TW) { frames := 14, cells := 40, slots := 2000, locals := 364 } (va_Pc [.ref o, .int x1, .ref out] (wP G A ws out f)) (va_Qi (fun r (u9 : va_W × (Nat → Int64)) => (r = nI 0 ∧ ∃ v9 : Int32, u9.2 0 = v9.toInt64 ∧ CCs G u9.1 o z u lv le lk V E K inp w d wV wC ∧ ∃ j, j < E.length ∧ x1 = nI j ∧ 0 < wV ∧ lastV (sE E j) 59 < wV ∧ v9 = nI (vl (sE E j) w)) ∨ (r = nI 1 ∧ CCs G u9.1 o z u lv le lk V E K inp w d wV wC ∧ (¬ md E.length x1)) ∨ (r = nI 2 ∧ CCs G u9.1 o z u lv le lk V E K inp w d wV wC ∧ (∃ j, j < E.length ∧ x1 = nI j ∧ ¬ (0 < wV ∧ lastV (sE E j) 59 < wV)))) (wB G A out) (wA A out)) 40 2000 (wA A out) := by
  refine va_MetW (cc := b_L_value) (maxL := 4) (ret := (some .int)) (by decide) rfl ?_
  intro p e s m args below meth c s₁ B hml hv
  obtain ⟨rfl, ⟨hE, hA, hP, hD⟩, hPo, hoA, hN⟩ := hv
  have hx := B.exec
  have hb := B.bytes
  have hr := B.returns
  have ht : ∀ w ∈ TW, w.before _ s = true := fun w h => atoms_spec (ws := cw_L_value :: TW) B.pre w (List.mem_cons_of_mem _ h)
  have hown : s.vm.findClass R_L = some m.cls := findClass_of_methodNamed B.named
  have hlocks := B.notSynchronized
  have htab := vx_table (x := y_L_value) B (atoms_spec (ws := cw_L_value :: TW) B.pre _ List.mem_cons_self)
  have hK := hE.1
  have hS : va_S (wA A out) s.heap s.heap [] := va_S.rf
  obtain ⟨wa0, da0, ho0⟩ := CCs.o hR
  have hl := lv_entry ([.ref o, .int x1, .ref out]) (n := 4) (Nat.le_of_ble_eq_true rfl)
  rw [lg_entry_eq]
  generalize (lg_sl ([.ref o, .int x1, .ref out]) ++ List.replicate (4 - (lg_sl ([.ref o, .int x1, .ref out])).length) Slot.unset).toArray = ls at hl ⊢
  have hl : lv_has ls 4 [(0, .ref o), (1, .int x1), (2, .ref out)] := hl
  refine lv_aload_n hx hb d_L_value_0 rfl (lv_at hl 2 rfl) ?_
  refine lv_iconst (v := (nI 0)) hx hb d_L_value_1 (by decide) ?_
  refine lv_aload_n hx hb d_L_value_2 rfl (lv_at hl 0 rfl) ?_
  refine lv_iload_n hx hb d_L_value_3 rfl (lv_at hl 1 rfl) ?_
  refine vx_calli (A0 := wA A out) (A1 := A) (AX := A) (vx_runV (As := [.int x1]) (rest := [.int (nI 0), .ref out]) ⟨hx, hb, hml, hown, ht⟩ (c_valueP l G A ws hst o z u lv le lk V E K inp w d wV wC hR hI x1) (cwV 1 ht (TW_V k_ml_L_35 k_im_C_value k_se_C_value k_in_C k_code_C_value) rfl rfl rfl hv_C_value ⟨Nat.le_of_ble_eq_true rfl, Nat.le_of_ble_eq_true rfl⟩) ⟨x_blind, va_recv hK hP rfl ho0, x_pre hE hA va_S.rf hP hD⟩ rfl rfl hl.1 rfl (lv_room (Nat.le_of_ble_eq_true rfl)) d_L_value_4 ⟨Nat.le_of_ble_eq_true rfl, Nat.le_of_ble_eq_true rfl⟩) hS (fun _ _ h => Or.inl h) (fun _ h => Or.inl h) (fun _ _ h => Or.inl h) (fun Ex ce q9 w9 t9 H locs h9 _ _ hB hz hq hS hce hcv hcl => ?_) (fun r w9 t9 H locs h9 _ hp hB hz hq hS => ?_)
  · obtain ⟨hp, hP1, hD1⟩ := hB
    rw [h9] at hP1
    have hPo1 := keepO hPo hq hoA
    obtain ⟨hR1, ⟨rfl, c1⟩ | ⟨rfl, c1⟩⟩ := hp
    · refine vx_catch (own := R_L) hown [] ⟨0, 9, 12, 25⟩ [⟨0, 9, 15, 15⟩] htab (fun z hz => nomatch hz) rfl (by decide) (ht _ k_cl_L_25) (va_Nw.use rfl (hE.2.2.2.2.2.2.2 _ k_ca_NoSuchElementException_NoSuchElementException)) hce hcv hcl ?_
      refine lv_astore_n (lv' := [(3, .ref q9), (0, .ref o), (1, .int x1), (2, .ref out)]) hx hb d_L_value_12 rfl hl (by decide) rfl (fun ls hl => ?_)
      refine lv_iconst (v := (nI 1)) hx hb d_L_value_13 (by decide) ?_
      exact W.widen (Nat.le_of_ble_eq_true rfl) (Nat.le_of_ble_eq_true rfl) (W.iret (v := nI 1) hx hb hr (fun t8 h8 _ => ⟨⟨nI 1, (w9, f), rfl, Or.inr (Or.inl ⟨rfl, hR1, c1⟩), ⟨by rw [h8]; exact hP1, hD1⟩, by rw [h8]; exact hPo1⟩, hS.F h8⟩) hS.2.2 d_L_value_14 hlocks)
    · refine vx_catch (own := R_L) hown [⟨0, 9, 12, 25⟩] ⟨0, 9, 15, 15⟩ [] htab (fun z hz => Or.inr (by rw [List.mem_singleton.mp hz]; exact ⟨by decide, _, ht _ k_cl_L_25, hN.2.2.1⟩)) rfl (by decide) (ht _ k_cl_L_15) (va_Nw.use rfl (hE.2.2.2.2.2.2.2 _ k_ca_IllegalStateException_IllegalStateException)) hce hcv hcl ?_
      refine lv_astore_n (lv' := [(3, .ref q9), (0, .ref o), (1, .int x1), (2, .ref out)]) hx hb d_L_value_15 rfl hl (by decide) rfl (fun ls hl => ?_)
      refine lv_iconst (v := (nI 2)) hx hb d_L_value_16 (by decide) ?_
      exact W.widen (Nat.le_of_ble_eq_true rfl) (Nat.le_of_ble_eq_true rfl) (W.iret (v := nI 2) hx hb hr (fun t8 h8 _ => ⟨⟨nI 2, (w9, f), rfl, Or.inr (Or.inr ⟨rfl, hR1, c1⟩), ⟨by rw [h8]; exact hP1, hD1⟩, by rw [h8]; exact hPo1⟩, hS.F h8⟩) hS.2.2 d_L_value_17 hlocks)
  · obtain ⟨hP1, hD1⟩ := hB
    rw [h9] at hP1
    have hPo1 := keepO hPo hq hoA
    have hPc := hP1.app hPo1
    have hDc := D_out (e := aJ G 1 f) hD1 hoA
    refine lv_i2l (v := r.toInt64) hx hb d_L_value_7 rfl ?_
    refine va_last hx hb hK hPc hDc hS w9.length 1 w_new0 rfl (vp_in_nI (by decide) (by decide)) d_L_value_8 (fun H locs hP2 hD2 hS => ?_)
    rw [set_last] at hP2
    have hP3 : va_P (xD G) CL w9 H := hP2.by id (fun k q hk => w_app hk)
    have hPo3 : va_P (xD G) CL [(out, aJ G 1 (vp_updL f (nI 0).toNatClampNeg r.toInt64))] H := hP2.by (fun _ => w9.length) (fun k q hk => by rw [(sgl hk).2]; exact w_new0)
    refine lv_goto (tgt := 18) hx hb d_L_value_9 (by decide) ?_
    refine lv_iconst (v := (nI 0)) hx hb d_L_value_18 (by decide) ?_
    exact W.widen (Nat.le_of_ble_eq_true rfl) (Nat.le_of_ble_eq_true rfl) (W.iret (v := nI 0) hx hb hr (fun t8 h8 _ => ⟨⟨nI 0, (w9, vp_updL f (nI 0).toNatClampNeg r.toInt64), rfl, Or.inl ⟨rfl, r, by show vp_updL f (nI 0).toNatClampNeg r.toInt64 0 = _; rw [nI_clamp (by decide)]; exact pk_uLs, hp⟩, ⟨by rw [h8]; exact hP3, hD1⟩, by rw [h8]; exact hPo3⟩, hS.F h8⟩) hS.2.2 d_L_value_19 hlocks)

set_option maxHeartbeats 4000000 in
set_option maxRecDepth 100000 in
theorem w_tamper (l : Launch) (G : xG) (A : Nat → Prop) (ws : va_W) (hst : l.stackTraces = false) (o z u lv le lk : Nat) (V : List VV) (E : List EE) (K : List KK) (inp : Nat) (w d : Nat → Nat) (wV wC : Nat) (hR : CCs G ws o z u lv le lk V E K inp w d wV wC) (hI : okI V E K inp wV wC) (x1 x2 : Int32) (out : Nat) (f : Nat → Int64) : Met l y_L_tamper (cw_L_tamper :: TW) { frames := 14, cells := 40, slots := 2000, locals := 364 } (va_Pc [.ref o, .int x1, .int x2, .ref out] (wP G A ws out f)) (va_Qi (fun r (u9 : va_W × (Nat → Int64)) => (r = nI 0 ∧ ∃ v9 : Int32, u9.2 0 = v9.toInt64 ∧ 0 < wV ∧ ∃ j, 1 ≤ j ∧ j < wV ∧ x1 = nI j ∧ v9 = nI (w j) ∧ CCs G u9.1 o z u lv le lk V E K inp (va_up w j (rm x2)) d wV wC) ∨ (r = nI 1 ∧ CCs G u9.1 o z u lv le lk V E K inp w d wV wC ∧ (wV = 0)) ∨ (r = nI 2 ∧ CCs G u9.1 o z u lv le lk V E K inp w d wV wC ∧ (0 < wV ∧ ¬ ∃ j, 1 ≤ j ∧ j < wV ∧ x1 = nI j))) (wB G A out) (wA A out)) 40 2000 (wA A out) := by
  refine va_MetW (cc := b_L_tamper) (maxL := 5) (ret := (some .int)) (by decide) rfl ?_
  intro p e s m args below meth c s₁ B hml hv
  obtain ⟨rfl, ⟨hE, hA, hP, hD⟩, hPo, hoA, hN⟩ := hv
  have hx := B.exec
  have hb := B.bytes
  have hr := B.returns
  have ht : ∀ w ∈ TW, w.before _ s = true := fun w h => atoms_spec (ws := cw_L_tamper :: TW) B.pre w (List.mem_cons_of_mem _ h)
  have hown : s.vm.findClass R_L = some m.cls := findClass_of_methodNamed B.named
  have hlocks := B.notSynchronized
  have htab := vx_table (x := y_L_tamper) B (atoms_spec (ws := cw_L_tamper :: TW) B.pre _ List.mem_cons_self)
  have hK := hE.1
  have hS : va_S (wA A out) s.heap s.heap [] := va_S.rf
  obtain ⟨wa0, da0, ho0⟩ := CCs.o hR
  have hl := lv_entry ([.ref o, .int x1, .int x2, .ref out]) (n := 5) (Nat.le_of_ble_eq_true rfl)
  rw [lg_entry_eq]
  generalize (lg_sl ([.ref o, .int x1, .int x2, .ref out]) ++ List.replicate (5 - (lg_sl ([.ref o, .int x1, .int x2, .ref out])).length) Slot.unset).toArray = ls at hl ⊢
  have hl : lv_has ls 5 [(0, .ref o), (1, .int x1), (2, .int x2), (3, .ref out)] := hl
  refine lv_aload_n hx hb d_L_tamper_0 rfl (lv_at hl 3 rfl) ?_
  refine lv_iconst (v := (nI 0)) hx hb d_L_tamper_1 (by decide) ?_
  refine lv_aload_n hx hb d_L_tamper_2 rfl (lv_at hl 0 rfl) ?_
  refine lv_iload_n hx hb d_L_tamper_3 rfl (lv_at hl 1 rfl) ?_
  refine lv_iload_n hx hb d_L_tamper_4 rfl (lv_at hl 2 rfl) ?_
  refine vx_calli (A0 := wA A out) (A1 := A) (AX := A) (vx_runV (As := [.int x1, .int x2]) (rest := [.int (nI 0), .ref out]) ⟨hx, hb, hml, hown, ht⟩ (c_tamper l G A ws hst o z u lv le lk V E K inp w d wV wC hR hI x1 x2) (cwV 2 ht (TW_V k_ml_L_39 k_im_C_tamper k_se_C_tamper k_in_C k_code_C_tamper) rfl rfl rfl hv_C_tamper ⟨Nat.le_of_ble_eq_true rfl, Nat.le_of_ble_eq_true rfl⟩) ⟨x_blind, va_recv hK hP rfl ho0, x_pre hE hA va_S.rf hP hD⟩ rfl rfl hl.1 rfl (lv_room (Nat.le_of_ble_eq_true rfl)) d_L_tamper_5 ⟨Nat.le_of_ble_eq_true rfl, Nat.le_of_ble_eq_true rfl⟩) hS (fun _ _ h => Or.inl h) (fun _ h => Or.inl h) (fun _ _ h => Or.inl h) (fun Ex ce q9 w9 t9 H locs h9 _ _ hB hz hq hS hce hcv hcl => ?_) (fun r w9 t9 H locs h9 _ hp hB hz hq hS => ?_)
  · obtain ⟨hp, hP1, hD1⟩ := hB
    rw [h9] at hP1
    have hPo1 := keepO hPo hq hoA
    obtain ⟨hR1, ⟨rfl, c1⟩ | ⟨rfl, c1⟩⟩ := hp
    · refine vx_catch (own := R_L) hown [] ⟨0, 10, 13, 15⟩ [⟨0, 10, 17, 13⟩] htab (fun z hz => nomatch hz) rfl (by decide) (ht _ k_cl_L_15) (va_Nw.use rfl (hE.2.2.2.2.2.2.2 _ k_ca_IllegalStateException_IllegalStateException)) hce hcv hcl ?_
      refine lv_astore (lv' := [(4, .ref q9), (0, .ref o), (1, .int x1), (2, .int x2), (3, .ref out)]) hx hb d_L_tamper_13 hl (by decide) rfl (fun ls hl => ?_)
      refine lv_iconst (v := (nI 1)) hx hb d_L_tamper_15 (by decide) ?_
      exact W.widen (Nat.le_of_ble_eq_true rfl) (Nat.le_of_ble_eq_true rfl) (W.iret (v := nI 1) hx hb hr (fun t8 h8 _ => ⟨⟨nI 1, (w9, f), rfl, Or.inr (Or.inl ⟨rfl, hR1, c1⟩), ⟨by rw [h8]; exact hP1, hD1⟩, by rw [h8]; exact hPo1⟩, hS.F h8⟩) hS.2.2 d_L_tamper_16 hlocks)
    · refine vx_catch (own := R_L) hown [⟨0, 10, 13, 15⟩] ⟨0, 10, 17, 13⟩ [] htab (fun z hz => Or.inr (by rw [List.mem_singleton.mp hz]; exact ⟨by decide, _, ht _ k_cl_L_15, hN.2.2.2.1⟩)) rfl (by decide) (ht _ k_cl_L_13) (va_Nw.use rfl (hE.2.2.2.2.2.2.2 _ k_ca_IllegalArgumentException_IllegalArgumentException)) hce hcv hcl ?_
      refine lv_astore (lv' := [(4, .ref q9), (0, .ref o), (1, .int x1), (2, .int x2), (3, .ref out)]) hx hb d_L_tamper_17 hl (by decide) rfl (fun ls hl => ?_)
      refine lv_iconst (v := (nI 2)) hx hb d_L_tamper_19 (by decide) ?_
      exact W.widen (Nat.le_of_ble_eq_true rfl) (Nat.le_of_ble_eq_true rfl) (W.iret (v := nI 2) hx hb hr (fun t8 h8 _ => ⟨⟨nI 2, (w9, f), rfl, Or.inr (Or.inr ⟨rfl, hR1, c1⟩), ⟨by rw [h8]; exact hP1, hD1⟩, by rw [h8]; exact hPo1⟩, hS.F h8⟩) hS.2.2 d_L_tamper_20 hlocks)
  · obtain ⟨hP1, hD1⟩ := hB
    rw [h9] at hP1
    have hPo1 := keepO hPo hq hoA
    have hPc := hP1.app hPo1
    have hDc := D_out (e := aJ G 1 f) hD1 hoA
    refine lv_i2l (v := r.toInt64) hx hb d_L_tamper_8 rfl ?_
    refine va_last hx hb hK hPc hDc hS w9.length 1 w_new0 rfl (vp_in_nI (by decide) (by decide)) d_L_tamper_9 (fun H locs hP2 hD2 hS => ?_)
    rw [set_last] at hP2
    have hP3 : va_P (xD G) CL w9 H := hP2.by id (fun k q hk => w_app hk)
    have hPo3 : va_P (xD G) CL [(out, aJ G 1 (vp_updL f (nI 0).toNatClampNeg r.toInt64))] H := hP2.by (fun _ => w9.length) (fun k q hk => by rw [(sgl hk).2]; exact w_new0)
    refine lv_goto (tgt := 21) hx hb d_L_tamper_10 (by decide) ?_
    refine lv_iconst (v := (nI 0)) hx hb d_L_tamper_21 (by decide) ?_
    exact W.widen (Nat.le_of_ble_eq_true rfl) (Nat.le_of_ble_eq_true rfl) (W.iret (v := nI 0) hx hb hr (fun t8 h8 _ => ⟨⟨nI 0, (w9, vp_updL f (nI 0).toNatClampNeg r.toInt64), rfl, Or.inl ⟨rfl, r, by show vp_updL f (nI 0).toNatClampNeg r.toInt64 0 = _; rw [nI_clamp (by decide)]; exact pk_uLs, hp⟩, ⟨by rw [h8]; exact hP3, hD1⟩, by rw [h8]; exact hPo3⟩, hS.F h8⟩) hS.2.2 d_L_tamper_22 hlocks)

set_option maxHeartbeats 4000000 in
set_option maxRecDepth 100000 in
theorem w_broken (l : Launch) (G : xG) (A : Nat → Prop) (ws : va_W) (hst : l.stackTraces = false) (o z u lv le lk : Nat) (V : List VV) (E : List EE) (K : List KK) (inp : Nat) (w d : Nat → Nat) (wV wC : Nat) (hR : CCs G ws o z u lv le lk V E K inp w d wV wC) (hI : okI V E K inp wV wC) (out : Nat) (f : Nat → Int64) : Met l y_L_broken (cw_L_broken :: TW) { frames := 14, cells := 40, slots := 2000, locals := 364 } (va_Pc [.ref o, .ref out] (wP G A ws out f)) (va_Qi (fun r (u9 : va_W × (Nat → Int64)) => (r = nI 0 ∧ ∃ v9 : Int32, u9.2 0 = v9.toInt64 ∧ CCs G u9.1 o z u lv le lk V E K inp w d wV wC ∧ 0 < wV ∧ v9 = nI (brk K w wC)) ∨ (r = nI 1 ∧ CCs G u9.1 o z u lv le lk V E K inp w d wV wC ∧ (wV = 0))) (wB G A out) (wA A out)) 40 2000 (wA A out) := by
  refine va_MetW (cc := b_L_broken) (maxL := 3) (ret := (some .int)) (by decide) rfl ?_
  intro p e s m args below meth c s₁ B hml hv
  obtain ⟨rfl, ⟨hE, hA, hP, hD⟩, hPo, hoA, hN⟩ := hv
  have hx := B.exec
  have hb := B.bytes
  have hr := B.returns
  have ht : ∀ w ∈ TW, w.before _ s = true := fun w h => atoms_spec (ws := cw_L_broken :: TW) B.pre w (List.mem_cons_of_mem _ h)
  have hown : s.vm.findClass R_L = some m.cls := findClass_of_methodNamed B.named
  have hlocks := B.notSynchronized
  have htab := vx_table (x := y_L_broken) B (atoms_spec (ws := cw_L_broken :: TW) B.pre _ List.mem_cons_self)
  have hK := hE.1
  have hS : va_S (wA A out) s.heap s.heap [] := va_S.rf
  obtain ⟨wa0, da0, ho0⟩ := CCs.o hR
  have hl := lv_entry ([.ref o, .ref out]) (n := 3) (Nat.le_of_ble_eq_true rfl)
  rw [lg_entry_eq]
  generalize (lg_sl ([.ref o, .ref out]) ++ List.replicate (3 - (lg_sl ([.ref o, .ref out])).length) Slot.unset).toArray = ls at hl ⊢
  have hl : lv_has ls 3 [(0, .ref o), (1, .ref out)] := hl
  refine lv_aload_n hx hb d_L_broken_0 rfl (lv_at hl 1 rfl) ?_
  refine lv_iconst (v := (nI 0)) hx hb d_L_broken_1 (by decide) ?_
  refine lv_aload_n hx hb d_L_broken_2 rfl (lv_at hl 0 rfl) ?_
  refine vx_calli (A0 := wA A out) (A1 := A) (AX := A) (vx_runV (As := []) (rest := [.int (nI 0), .ref out]) ⟨hx, hb, hml, hown, ht⟩ (c_brokenP l G A ws hst o z u lv le lk V E K inp w d wV wC hR hI) (cwV 0 ht (TW_V k_ml_L_42 k_im_C_broken k_se_C_broken k_in_C k_code_C_broken) rfl rfl rfl hv_C_broken ⟨Nat.le_of_ble_eq_true rfl, Nat.le_of_ble_eq_true rfl⟩) ⟨x_blind, va_recv hK hP rfl ho0, x_pre hE hA va_S.rf hP hD⟩ rfl rfl hl.1 rfl (lv_room (Nat.le_of_ble_eq_true rfl)) d_L_broken_3 ⟨Nat.le_of_ble_eq_true rfl, Nat.le_of_ble_eq_true rfl⟩) hS (fun _ _ h => Or.inl h) (fun _ h => Or.inl h) (fun _ _ h => Or.inl h) (fun Ex ce q9 w9 t9 H locs h9 _ _ hB hz hq hS hce hcv hcl => ?_) (fun r w9 t9 H locs h9 _ hp hB hz hq hS => ?_)
  · obtain ⟨hp, hP1, hD1⟩ := hB
    rw [h9] at hP1
    have hPo1 := keepO hPo hq hoA
    obtain ⟨hR1, rfl, c1⟩ := hp
    refine vx_catch (own := R_L) hown [] ⟨0, 8, 11, 15⟩ [] htab (fun z hz => nomatch hz) rfl (by decide) (ht _ k_cl_L_15) (va_Nw.use rfl (hE.2.2.2.2.2.2.2 _ k_ca_IllegalStateException_IllegalStateException)) hce hcv hcl ?_
    refine lv_astore_n (lv' := [(2, .ref q9), (0, .ref o), (1, .ref out)]) hx hb d_L_broken_11 rfl hl (by decide) rfl (fun ls hl => ?_)
    refine lv_iconst (v := (nI 1)) hx hb d_L_broken_12 (by decide) ?_
    exact W.widen (Nat.le_of_ble_eq_true rfl) (Nat.le_of_ble_eq_true rfl) (W.iret (v := nI 1) hx hb hr (fun t8 h8 _ => ⟨⟨nI 1, (w9, f), rfl, Or.inr (⟨rfl, hR1, c1⟩), ⟨by rw [h8]; exact hP1, hD1⟩, by rw [h8]; exact hPo1⟩, hS.F h8⟩) hS.2.2 d_L_broken_13 hlocks)
  · obtain ⟨hP1, hD1⟩ := hB
    rw [h9] at hP1
    have hPo1 := keepO hPo hq hoA
    have hPc := hP1.app hPo1
    have hDc := D_out (e := aJ G 1 f) hD1 hoA
    refine lv_i2l (v := r.toInt64) hx hb d_L_broken_6 rfl ?_
    refine va_last hx hb hK hPc hDc hS w9.length 1 w_new0 rfl (vp_in_nI (by decide) (by decide)) d_L_broken_7 (fun H locs hP2 hD2 hS => ?_)
    rw [set_last] at hP2
    have hP3 : va_P (xD G) CL w9 H := hP2.by id (fun k q hk => w_app hk)
    have hPo3 : va_P (xD G) CL [(out, aJ G 1 (vp_updL f (nI 0).toNatClampNeg r.toInt64))] H := hP2.by (fun _ => w9.length) (fun k q hk => by rw [(sgl hk).2]; exact w_new0)
    refine lv_goto (tgt := 14) hx hb d_L_broken_8 (by decide) ?_
    refine lv_iconst (v := (nI 0)) hx hb d_L_broken_14 (by decide) ?_
    exact W.widen (Nat.le_of_ble_eq_true rfl) (Nat.le_of_ble_eq_true rfl) (W.iret (v := nI 0) hx hb hr (fun t8 h8 _ => ⟨⟨nI 0, (w9, vp_updL f (nI 0).toNatClampNeg r.toInt64), rfl, Or.inl ⟨rfl, r, by show vp_updL f (nI 0).toNatClampNeg r.toInt64 0 = _; rw [nI_clamp (by decide)]; exact pk_uLs, hp⟩, ⟨by rw [h8]; exact hP3, hD1⟩, by rw [h8]; exact hPo3⟩, hS.F h8⟩) hS.2.2 d_L_broken_15 hlocks)

set_option maxHeartbeats 4000000 in
set_option maxRecDepth 100000 in
theorem w_first (l : Launch) (G : xG) (A : Nat → Prop) (ws : va_W) (hst : l.stackTraces = false) (o z u lv le lk : Nat) (V : List VV) (E : List EE) (K : List KK) (inp : Nat) (w d : Nat → Nat) (wV wC : Nat) (hR : CCs G ws o z u lv le lk V E K inp w d wV wC) (hI : okI V E K inp wV wC) (out : Nat) (f : Nat → Int64) : Met l y_L_first (cw_L_first :: TW) { frames := 14, cells := 40, slots := 2000, locals := 364 } (va_Pc [.ref o, .ref out] (wP G A ws out f)) (va_Qi (fun r (u9 : va_W × (Nat → Int64)) => (r = nI 0 ∧ ∃ v9 : Int32, u9.2 0 = v9.toInt64 ∧ CCs G u9.1 o z u lv le lk V E K inp w d wV wC ∧ 0 < wV ∧ ∃ j, j < wC ∧ (∀ i, i < j → hld (kAt K i) w) ∧ ¬ hld (kAt K j) w ∧ v9 = nI j) ∨ (r = nI 1 ∧ CCs G u9.1 o z u lv le lk V E K inp w d wV wC ∧ (wV = 0)) ∨ (r = nI 2 ∧ CCs G u9.1 o z u lv le lk V E K inp w d wV wC ∧ (0 < wV ∧ ∀ i, i < wC → hld (kAt K i) w))) (wB G A out) (wA A out)) 40 2000 (wA A out) := by
  refine va_MetW (cc := b_L_first) (maxL := 3) (ret := (some .int)) (by decide) rfl ?_
  intro p e s m args below meth c s₁ B hml hv
  obtain ⟨rfl, ⟨hE, hA, hP, hD⟩, hPo, hoA, hN⟩ := hv
  have hx := B.exec
  have hb := B.bytes
  have hr := B.returns
  have ht : ∀ w ∈ TW, w.before _ s = true := fun w h => atoms_spec (ws := cw_L_first :: TW) B.pre w (List.mem_cons_of_mem _ h)
  have hown : s.vm.findClass R_L = some m.cls := findClass_of_methodNamed B.named
  have hlocks := B.notSynchronized
  have htab := vx_table (x := y_L_first) B (atoms_spec (ws := cw_L_first :: TW) B.pre _ List.mem_cons_self)
  have hK := hE.1
  have hS : va_S (wA A out) s.heap s.heap [] := va_S.rf
  obtain ⟨wa0, da0, ho0⟩ := CCs.o hR
  have hl := lv_entry ([.ref o, .ref out]) (n := 3) (Nat.le_of_ble_eq_true rfl)
  rw [lg_entry_eq]
  generalize (lg_sl ([.ref o, .ref out]) ++ List.replicate (3 - (lg_sl ([.ref o, .ref out])).length) Slot.unset).toArray = ls at hl ⊢
  have hl : lv_has ls 3 [(0, .ref o), (1, .ref out)] := hl
  refine lv_aload_n hx hb d_L_first_0 rfl (lv_at hl 1 rfl) ?_
  refine lv_iconst (v := (nI 0)) hx hb d_L_first_1 (by decide) ?_
  refine lv_aload_n hx hb d_L_first_2 rfl (lv_at hl 0 rfl) ?_
  refine vx_calli (A0 := wA A out) (A1 := A) (AX := A) (vx_runV (As := []) (rest := [.int (nI 0), .ref out]) ⟨hx, hb, hml, hown, ht⟩ (c_first l G A ws hst o z u lv le lk V E K inp w d wV wC hR hI) (cwV 0 ht (TW_V k_ml_L_45 k_im_C_first k_se_C_first k_in_C k_code_C_first) rfl rfl rfl hv_C_first ⟨Nat.le_of_ble_eq_true rfl, Nat.le_of_ble_eq_true rfl⟩) ⟨x_blind, va_recv hK hP rfl ho0, x_pre hE hA va_S.rf hP hD⟩ rfl rfl hl.1 rfl (lv_room (Nat.le_of_ble_eq_true rfl)) d_L_first_3 ⟨Nat.le_of_ble_eq_true rfl, Nat.le_of_ble_eq_true rfl⟩) hS (fun _ _ h => Or.inl h) (fun _ h => Or.inl h) (fun _ _ h => Or.inl h) (fun Ex ce q9 w9 t9 H locs h9 _ _ hB hz hq hS hce hcv hcl => ?_) (fun r w9 t9 H locs h9 _ hp hB hz hq hS => ?_)
  · obtain ⟨hp, hP1, hD1⟩ := hB
    rw [h9] at hP1
    have hPo1 := keepO hPo hq hoA
    obtain ⟨hR1, ⟨rfl, c1⟩ | ⟨rfl, c1⟩⟩ := hp
    · refine vx_catch (own := R_L) hown [] ⟨0, 8, 11, 15⟩ [⟨0, 8, 14, 25⟩] htab (fun z hz => nomatch hz) rfl (by decide) (ht _ k_cl_L_15) (va_Nw.use rfl (hE.2.2.2.2.2.2.2 _ k_ca_IllegalStateException_IllegalStateException)) hce hcv hcl ?_
      refine lv_astore_n (lv' := [(2, .ref q9), (0, .ref o), (1, .ref out)]) hx hb d_L_first_11 rfl hl (by decide) rfl (fun ls hl => ?_)
      refine lv_iconst (v := (nI 1)) hx hb d_L_first_12 (by decide) ?_
      exact W.widen (Nat.le_of_ble_eq_true rfl) (Nat.le_of_ble_eq_true rfl) (W.iret (v := nI 1) hx hb hr (fun t8 h8 _ => ⟨⟨nI 1, (w9, f), rfl, Or.inr (Or.inl ⟨rfl, hR1, c1⟩), ⟨by rw [h8]; exact hP1, hD1⟩, by rw [h8]; exact hPo1⟩, hS.F h8⟩) hS.2.2 d_L_first_13 hlocks)
    · refine vx_catch (own := R_L) hown [⟨0, 8, 11, 15⟩] ⟨0, 8, 14, 25⟩ [] htab (fun z hz => Or.inr (by rw [List.mem_singleton.mp hz]; exact ⟨by decide, _, ht _ k_cl_L_15, hN.2.2.2.2.1⟩)) rfl (by decide) (ht _ k_cl_L_25) (va_Nw.use rfl (hE.2.2.2.2.2.2.2 _ k_ca_NoSuchElementException_NoSuchElementException)) hce hcv hcl ?_
      refine lv_astore_n (lv' := [(2, .ref q9), (0, .ref o), (1, .ref out)]) hx hb d_L_first_14 rfl hl (by decide) rfl (fun ls hl => ?_)
      refine lv_iconst (v := (nI 2)) hx hb d_L_first_15 (by decide) ?_
      exact W.widen (Nat.le_of_ble_eq_true rfl) (Nat.le_of_ble_eq_true rfl) (W.iret (v := nI 2) hx hb hr (fun t8 h8 _ => ⟨⟨nI 2, (w9, f), rfl, Or.inr (Or.inr ⟨rfl, hR1, c1⟩), ⟨by rw [h8]; exact hP1, hD1⟩, by rw [h8]; exact hPo1⟩, hS.F h8⟩) hS.2.2 d_L_first_16 hlocks)
  · obtain ⟨hP1, hD1⟩ := hB
    rw [h9] at hP1
    have hPo1 := keepO hPo hq hoA
    have hPc := hP1.app hPo1
    have hDc := D_out (e := aJ G 1 f) hD1 hoA
    refine lv_i2l (v := r.toInt64) hx hb d_L_first_6 rfl ?_
    refine va_last hx hb hK hPc hDc hS w9.length 1 w_new0 rfl (vp_in_nI (by decide) (by decide)) d_L_first_7 (fun H locs hP2 hD2 hS => ?_)
    rw [set_last] at hP2
    have hP3 : va_P (xD G) CL w9 H := hP2.by id (fun k q hk => w_app hk)
    have hPo3 : va_P (xD G) CL [(out, aJ G 1 (vp_updL f (nI 0).toNatClampNeg r.toInt64))] H := hP2.by (fun _ => w9.length) (fun k q hk => by rw [(sgl hk).2]; exact w_new0)
    refine lv_goto (tgt := 17) hx hb d_L_first_8 (by decide) ?_
    refine lv_iconst (v := (nI 0)) hx hb d_L_first_17 (by decide) ?_
    exact W.widen (Nat.le_of_ble_eq_true rfl) (Nat.le_of_ble_eq_true rfl) (W.iret (v := nI 0) hx hb hr (fun t8 h8 _ => ⟨⟨nI 0, (w9, vp_updL f (nI 0).toNatClampNeg r.toInt64), rfl, Or.inl ⟨rfl, r, by show vp_updL f (nI 0).toNatClampNeg r.toInt64 0 = _; rw [nI_clamp (by decide)]; exact pk_uLs, hp⟩, ⟨by rw [h8]; exact hP3, hD1⟩, by rw [h8]; exact hPo3⟩, hS.F h8⟩) hS.2.2 d_L_first_18 hlocks)

set_option maxHeartbeats 4000000 in
set_option maxRecDepth 100000 in
theorem w_coefficient (l : Launch) (G : xG) (A : Nat → Prop) (ws : va_W) (hst : l.stackTraces = false) (o z u lv le lk : Nat) (V : List VV) (E : List EE) (K : List KK) (inp : Nat) (w d : Nat → Nat) (wV wC : Nat) (hR : CCs G ws o z u lv le lk V E K inp w d wV wC) (hI : okI V E K inp wV wC) (x1 x2 x3 : Int32) (out : Nat) (f : Nat → Int64) : Met l y_L_coefficient (cw_L_coefficient :: TW) { frames := 14, cells := 40, slots := 2000, locals := 364 } (va_Pc [.ref o, .int x1, .int x2, .int x3, .ref out] (wP G A ws out f)) (va_Qi (fun r (u9 : va_W × (Nat → Int64)) => (r = nI 0 ∧ ∃ v9 : Int32, u9.2 0 = v9.toInt64 ∧ CCs G u9.1 o z u lv le lk V E K inp w d wV wC ∧ ∃ a b v, a < K.length ∧ b < 3 ∧ v < 60 ∧ x1 = nI a ∧ x2 = nI b ∧ x3 = nI v ∧ v9 = nI (kS (kAt K a) b v)) ∨ (r = nI 1 ∧ CCs G u9.1 o z u lv le lk V E K inp w d wV wC ∧ (¬ md K.length x1)) ∨ (r = nI 2 ∧ CCs G u9.1 o z u lv le lk V E K inp w d wV wC ∧ (md K.length x1 ∧ ¬ (md 3 x2 ∧ md 60 x3)))) (wB G A out) (wA A out)) 40 2000 (wA A out) := by
  refine va_MetW (cc := b_L_coefficient) (maxL := 6) (ret := (some .int)) (by decide) rfl ?_
  intro p e s m args below meth c s₁ B hml hv
  obtain ⟨rfl, ⟨hE, hA, hP, hD⟩, hPo, hoA, hN⟩ := hv
  have hx := B.exec
  have hb := B.bytes
  have hr := B.returns
  have ht : ∀ w ∈ TW, w.before _ s = true := fun w h => atoms_spec (ws := cw_L_coefficient :: TW) B.pre w (List.mem_cons_of_mem _ h)
  have hown : s.vm.findClass R_L = some m.cls := findClass_of_methodNamed B.named
  have hlocks := B.notSynchronized
  have htab := vx_table (x := y_L_coefficient) B (atoms_spec (ws := cw_L_coefficient :: TW) B.pre _ List.mem_cons_self)
  have hK := hE.1
  have hS : va_S (wA A out) s.heap s.heap [] := va_S.rf
  obtain ⟨wa0, da0, ho0⟩ := CCs.o hR
  have hl := lv_entry ([.ref o, .int x1, .int x2, .int x3, .ref out]) (n := 6) (Nat.le_of_ble_eq_true rfl)
  rw [lg_entry_eq]
  generalize (lg_sl ([.ref o, .int x1, .int x2, .int x3, .ref out]) ++ List.replicate (6 - (lg_sl ([.ref o, .int x1, .int x2, .int x3, .ref out])).length) Slot.unset).toArray = ls at hl ⊢
  have hl : lv_has ls 6 [(0, .ref o), (1, .int x1), (2, .int x2), (3, .int x3), (4, .ref out)] := hl
  refine lv_aload hx hb d_L_coefficient_0 (lv_at hl 4 rfl) ?_
  refine lv_iconst (v := (nI 0)) hx hb d_L_coefficient_2 (by decide) ?_
  refine lv_aload_n hx hb d_L_coefficient_3 rfl (lv_at hl 0 rfl) ?_
  refine lv_iload_n hx hb d_L_coefficient_4 rfl (lv_at hl 1 rfl) ?_
  refine lv_iload_n hx hb d_L_coefficient_5 rfl (lv_at hl 2 rfl) ?_
  refine lv_iload_n hx hb d_L_coefficient_6 rfl (lv_at hl 3 rfl) ?_
  refine vx_calli (A0 := wA A out) (A1 := A) (AX := A) (vx_runV (As := [.int x1, .int x2, .int x3]) (rest := [.int (nI 0), .ref out]) ⟨hx, hb, hml, hown, ht⟩ (c_coef l G A ws hst o z u lv le lk V E K inp w d wV wC hR hI x1 x2 x3) (cwV 3 ht (TW_V k_ml_L_48 k_im_C_coefficient k_se_C_coefficient k_in_C k_code_C_coefficient) rfl rfl rfl hv_C_coefficient ⟨Nat.le_of_ble_eq_true rfl, Nat.le_of_ble_eq_true rfl⟩) ⟨x_blind, va_recv hK hP rfl ho0, x_pre hE hA va_S.rf hP hD⟩ rfl rfl hl.1 rfl (lv_room (Nat.le_of_ble_eq_true rfl)) d_L_coefficient_7 ⟨Nat.le_of_ble_eq_true rfl, Nat.le_of_ble_eq_true rfl⟩) hS (fun _ _ h => Or.inl h) (fun _ h => Or.inl h) (fun _ _ h => Or.inl h) (fun Ex ce q9 w9 t9 H locs h9 _ _ hB hz hq hS hce hcv hcl => ?_) (fun r w9 t9 H locs h9 _ hp hB hz hq hS => ?_)
  · obtain ⟨hp, hP1, hD1⟩ := hB
    rw [h9] at hP1
    have hPo1 := keepO hPo hq hoA
    obtain ⟨hR1, ⟨rfl, c1⟩ | ⟨rfl, c1⟩⟩ := hp
    · refine vx_catch (own := R_L) hown [] ⟨0, 12, 15, 25⟩ [⟨0, 12, 19, 13⟩] htab (fun z hz => nomatch hz) rfl (by decide) (ht _ k_cl_L_25) (va_Nw.use rfl (hE.2.2.2.2.2.2.2 _ k_ca_NoSuchElementException_NoSuchElementException)) hce hcv hcl ?_
      refine lv_astore (lv' := [(5, .ref q9), (0, .ref o), (1, .int x1), (2, .int x2), (3, .int x3), (4, .ref out)]) hx hb d_L_coefficient_15 hl (by decide) rfl (fun ls hl => ?_)
      refine lv_iconst (v := (nI 1)) hx hb d_L_coefficient_17 (by decide) ?_
      exact W.widen (Nat.le_of_ble_eq_true rfl) (Nat.le_of_ble_eq_true rfl) (W.iret (v := nI 1) hx hb hr (fun t8 h8 _ => ⟨⟨nI 1, (w9, f), rfl, Or.inr (Or.inl ⟨rfl, hR1, c1⟩), ⟨by rw [h8]; exact hP1, hD1⟩, by rw [h8]; exact hPo1⟩, hS.F h8⟩) hS.2.2 d_L_coefficient_18 hlocks)
    · refine vx_catch (own := R_L) hown [⟨0, 12, 15, 25⟩] ⟨0, 12, 19, 13⟩ [] htab (fun z hz => Or.inr (by rw [List.mem_singleton.mp hz]; exact ⟨by decide, _, ht _ k_cl_L_25, hN.2.2.2.2.2⟩)) rfl (by decide) (ht _ k_cl_L_13) (va_Nw.use rfl (hE.2.2.2.2.2.2.2 _ k_ca_IllegalArgumentException_IllegalArgumentException)) hce hcv hcl ?_
      refine lv_astore (lv' := [(5, .ref q9), (0, .ref o), (1, .int x1), (2, .int x2), (3, .int x3), (4, .ref out)]) hx hb d_L_coefficient_19 hl (by decide) rfl (fun ls hl => ?_)
      refine lv_iconst (v := (nI 2)) hx hb d_L_coefficient_21 (by decide) ?_
      exact W.widen (Nat.le_of_ble_eq_true rfl) (Nat.le_of_ble_eq_true rfl) (W.iret (v := nI 2) hx hb hr (fun t8 h8 _ => ⟨⟨nI 2, (w9, f), rfl, Or.inr (Or.inr ⟨rfl, hR1, c1⟩), ⟨by rw [h8]; exact hP1, hD1⟩, by rw [h8]; exact hPo1⟩, hS.F h8⟩) hS.2.2 d_L_coefficient_22 hlocks)
  · obtain ⟨hP1, hD1⟩ := hB
    rw [h9] at hP1
    have hPo1 := keepO hPo hq hoA
    have hPc := hP1.app hPo1
    have hDc := D_out (e := aJ G 1 f) hD1 hoA
    refine lv_i2l (v := r.toInt64) hx hb d_L_coefficient_10 rfl ?_
    refine va_last hx hb hK hPc hDc hS w9.length 1 w_new0 rfl (vp_in_nI (by decide) (by decide)) d_L_coefficient_11 (fun H locs hP2 hD2 hS => ?_)
    rw [set_last] at hP2
    have hP3 : va_P (xD G) CL w9 H := hP2.by id (fun k q hk => w_app hk)
    have hPo3 : va_P (xD G) CL [(out, aJ G 1 (vp_updL f (nI 0).toNatClampNeg r.toInt64))] H := hP2.by (fun _ => w9.length) (fun k q hk => by rw [(sgl hk).2]; exact w_new0)
    refine lv_goto (tgt := 23) hx hb d_L_coefficient_12 (by decide) ?_
    refine lv_iconst (v := (nI 0)) hx hb d_L_coefficient_23 (by decide) ?_
    exact W.widen (Nat.le_of_ble_eq_true rfl) (Nat.le_of_ble_eq_true rfl) (W.iret (v := nI 0) hx hb hr (fun t8 h8 _ => ⟨⟨nI 0, (w9, vp_updL f (nI 0).toNatClampNeg r.toInt64), rfl, Or.inl ⟨rfl, r, by show vp_updL f (nI 0).toNatClampNeg r.toInt64 0 = _; rw [nI_clamp (by decide)]; exact pk_uLs, hp⟩, ⟨by rw [h8]; exact hP3, hD1⟩, by rw [h8]; exact hPo3⟩, hS.F h8⟩) hS.2.2 d_L_coefficient_24 hlocks)

set_option maxHeartbeats 4000000 in
set_option maxRecDepth 100000 in
theorem w_terms (l : Launch) (G : xG) (A : Nat → Prop) (ws : va_W) (hst : l.stackTraces = false) (o z u lv le lk : Nat) (V : List VV) (E : List EE) (K : List KK) (inp : Nat) (w d : Nat → Nat) (wV wC : Nat) (hR : CCs G ws o z u lv le lk V E K inp w d wV wC) (hI : okI V E K inp wV wC) (x1 : Int32) (out : Nat) (f : Nat → Int64) : Met l y_L_terms (cw_L_terms :: TW) { frames := 14, cells := 40, slots := 2000, locals := 364 } (va_Pc [.ref o, .int x1, .ref out] (wP G A ws out f)) (va_Qi (fun r (u9 : va_W × (Nat → Int64)) => (r = nI 0 ∧ ∃ v9 : Int32, u9.2 0 = v9.toInt64 ∧ CCs G u9.1 o z u lv le lk V E K inp w d wV wC ∧ ∃ j, j < E.length ∧ x1 = nI j ∧ v9 = nI (nz (sE E j) 60)) ∨ (r = nI 1 ∧ CCs G u9.1 o z u lv le lk V E K inp w d wV wC ∧ (¬ md E.length x1))) (wB G A out) (wA A out)) 40 2000 (wA A out) := by
  refine va_MetW (cc := b_L_terms) (maxL := 4) (ret := (some .int)) (by decide) rfl ?_
  intro p e s m args below meth c s₁ B hml hv
  obtain ⟨rfl, ⟨hE, hA, hP, hD⟩, hPo, hoA, hN⟩ := hv
  have hx := B.exec
  have hb := B.bytes
  have hr := B.returns
  have ht : ∀ w ∈ TW, w.before _ s = true := fun w h => atoms_spec (ws := cw_L_terms :: TW) B.pre w (List.mem_cons_of_mem _ h)
  have hown : s.vm.findClass R_L = some m.cls := findClass_of_methodNamed B.named
  have hlocks := B.notSynchronized
  have htab := vx_table (x := y_L_terms) B (atoms_spec (ws := cw_L_terms :: TW) B.pre _ List.mem_cons_self)
  have hK := hE.1
  have hS : va_S (wA A out) s.heap s.heap [] := va_S.rf
  obtain ⟨wa0, da0, ho0⟩ := CCs.o hR
  have hl := lv_entry ([.ref o, .int x1, .ref out]) (n := 4) (Nat.le_of_ble_eq_true rfl)
  rw [lg_entry_eq]
  generalize (lg_sl ([.ref o, .int x1, .ref out]) ++ List.replicate (4 - (lg_sl ([.ref o, .int x1, .ref out])).length) Slot.unset).toArray = ls at hl ⊢
  have hl : lv_has ls 4 [(0, .ref o), (1, .int x1), (2, .ref out)] := hl
  refine lv_aload_n hx hb d_L_terms_0 rfl (lv_at hl 2 rfl) ?_
  refine lv_iconst (v := (nI 0)) hx hb d_L_terms_1 (by decide) ?_
  refine lv_aload_n hx hb d_L_terms_2 rfl (lv_at hl 0 rfl) ?_
  refine lv_iload_n hx hb d_L_terms_3 rfl (lv_at hl 1 rfl) ?_
  refine vx_calli (A0 := wA A out) (A1 := A) (AX := A) (vx_runV (As := [.int x1]) (rest := [.int (nI 0), .ref out]) ⟨hx, hb, hml, hown, ht⟩ (c_terms l G A ws hst o z u lv le lk V E K inp w d wV wC hR hI x1) (cwV 1 ht (TW_V k_ml_L_51 k_im_C_terms k_se_C_terms k_in_C k_code_C_terms) rfl rfl rfl hv_C_terms ⟨Nat.le_of_ble_eq_true rfl, Nat.le_of_ble_eq_true rfl⟩) ⟨x_blind, va_recv hK hP rfl ho0, x_pre hE hA va_S.rf hP hD⟩ rfl rfl hl.1 rfl (lv_room (Nat.le_of_ble_eq_true rfl)) d_L_terms_4 ⟨Nat.le_of_ble_eq_true rfl, Nat.le_of_ble_eq_true rfl⟩) hS (fun _ _ h => Or.inl h) (fun _ h => Or.inl h) (fun _ _ h => Or.inl h) (fun Ex ce q9 w9 t9 H locs h9 _ _ hB hz hq hS hce hcv hcl => ?_) (fun r w9 t9 H locs h9 _ hp hB hz hq hS => ?_)
  · obtain ⟨hp, hP1, hD1⟩ := hB
    rw [h9] at hP1
    have hPo1 := keepO hPo hq hoA
    obtain ⟨hR1, rfl, c1⟩ := hp
    refine vx_catch (own := R_L) hown [] ⟨0, 9, 12, 25⟩ [] htab (fun z hz => nomatch hz) rfl (by decide) (ht _ k_cl_L_25) (va_Nw.use rfl (hE.2.2.2.2.2.2.2 _ k_ca_NoSuchElementException_NoSuchElementException)) hce hcv hcl ?_
    refine lv_astore_n (lv' := [(3, .ref q9), (0, .ref o), (1, .int x1), (2, .ref out)]) hx hb d_L_terms_12 rfl hl (by decide) rfl (fun ls hl => ?_)
    refine lv_iconst (v := (nI 1)) hx hb d_L_terms_13 (by decide) ?_
    exact W.widen (Nat.le_of_ble_eq_true rfl) (Nat.le_of_ble_eq_true rfl) (W.iret (v := nI 1) hx hb hr (fun t8 h8 _ => ⟨⟨nI 1, (w9, f), rfl, Or.inr (⟨rfl, hR1, c1⟩), ⟨by rw [h8]; exact hP1, hD1⟩, by rw [h8]; exact hPo1⟩, hS.F h8⟩) hS.2.2 d_L_terms_14 hlocks)
  · obtain ⟨hP1, hD1⟩ := hB
    rw [h9] at hP1
    have hPo1 := keepO hPo hq hoA
    have hPc := hP1.app hPo1
    have hDc := D_out (e := aJ G 1 f) hD1 hoA
    refine lv_i2l (v := r.toInt64) hx hb d_L_terms_7 rfl ?_
    refine va_last hx hb hK hPc hDc hS w9.length 1 w_new0 rfl (vp_in_nI (by decide) (by decide)) d_L_terms_8 (fun H locs hP2 hD2 hS => ?_)
    rw [set_last] at hP2
    have hP3 : va_P (xD G) CL w9 H := hP2.by id (fun k q hk => w_app hk)
    have hPo3 : va_P (xD G) CL [(out, aJ G 1 (vp_updL f (nI 0).toNatClampNeg r.toInt64))] H := hP2.by (fun _ => w9.length) (fun k q hk => by rw [(sgl hk).2]; exact w_new0)
    refine lv_goto (tgt := 15) hx hb d_L_terms_9 (by decide) ?_
    refine lv_iconst (v := (nI 0)) hx hb d_L_terms_15 (by decide) ?_
    exact W.widen (Nat.le_of_ble_eq_true rfl) (Nat.le_of_ble_eq_true rfl) (W.iret (v := nI 0) hx hb hr (fun t8 h8 _ => ⟨⟨nI 0, (w9, vp_updL f (nI 0).toNatClampNeg r.toInt64), rfl, Or.inl ⟨rfl, r, by show vp_updL f (nI 0).toNatClampNeg r.toInt64 0 = _; rw [nI_clamp (by decide)]; exact pk_uLs, hp⟩, ⟨by rw [h8]; exact hP3, hD1⟩, by rw [h8]; exact hPo3⟩, hS.F h8⟩) hS.2.2 d_L_terms_16 hlocks)

set_option maxHeartbeats 4000000 in
set_option maxRecDepth 100000 in
theorem w_uses (l : Launch) (G : xG) (A : Nat → Prop) (ws : va_W) (hst : l.stackTraces = false) (o z u lv le lk : Nat) (V : List VV) (E : List EE) (K : List KK) (inp : Nat) (w d : Nat → Nat) (wV wC : Nat) (hR : CCs G ws o z u lv le lk V E K inp w d wV wC) (hI : okI V E K inp wV wC) (x1 : Int32) (out : Nat) (f : Nat → Int64) : Met l y_L_uses (cw_L_uses :: TW) { frames := 14, cells := 40, slots := 2000, locals := 364 } (va_Pc [.ref o, .int x1, .ref out] (wP G A ws out f)) (va_Qi (fun r (u9 : va_W × (Nat → Int64)) => (r = nI 0 ∧ ∃ v9 : Int32, u9.2 0 = v9.toInt64 ∧ CCs G u9.1 o z u lv le lk V E K inp w d wV wC ∧ ∃ v, v < 60 ∧ x1 = nI v ∧ v9 = nI (usN K v K.length)) ∨ (r = nI 1 ∧ CCs G u9.1 o z u lv le lk V E K inp w d wV wC ∧ (¬ md 60 x1))) (wB G A out) (wA A out)) 40 2000 (wA A out) := by
  refine va_MetW (cc := b_L_uses) (maxL := 4) (ret := (some .int)) (by decide) rfl ?_
  intro p e s m args below meth c s₁ B hml hv
  obtain ⟨rfl, ⟨hE, hA, hP, hD⟩, hPo, hoA, hN⟩ := hv
  have hx := B.exec
  have hb := B.bytes
  have hr := B.returns
  have ht : ∀ w ∈ TW, w.before _ s = true := fun w h => atoms_spec (ws := cw_L_uses :: TW) B.pre w (List.mem_cons_of_mem _ h)
  have hown : s.vm.findClass R_L = some m.cls := findClass_of_methodNamed B.named
  have hlocks := B.notSynchronized
  have htab := vx_table (x := y_L_uses) B (atoms_spec (ws := cw_L_uses :: TW) B.pre _ List.mem_cons_self)
  have hK := hE.1
  have hS : va_S (wA A out) s.heap s.heap [] := va_S.rf
  obtain ⟨wa0, da0, ho0⟩ := CCs.o hR
  have hl := lv_entry ([.ref o, .int x1, .ref out]) (n := 4) (Nat.le_of_ble_eq_true rfl)
  rw [lg_entry_eq]
  generalize (lg_sl ([.ref o, .int x1, .ref out]) ++ List.replicate (4 - (lg_sl ([.ref o, .int x1, .ref out])).length) Slot.unset).toArray = ls at hl ⊢
  have hl : lv_has ls 4 [(0, .ref o), (1, .int x1), (2, .ref out)] := hl
  refine lv_aload_n hx hb d_L_uses_0 rfl (lv_at hl 2 rfl) ?_
  refine lv_iconst (v := (nI 0)) hx hb d_L_uses_1 (by decide) ?_
  refine lv_aload_n hx hb d_L_uses_2 rfl (lv_at hl 0 rfl) ?_
  refine lv_iload_n hx hb d_L_uses_3 rfl (lv_at hl 1 rfl) ?_
  refine vx_calli (A0 := wA A out) (A1 := A) (AX := A) (vx_runV (As := [.int x1]) (rest := [.int (nI 0), .ref out]) ⟨hx, hb, hml, hown, ht⟩ (c_uses l G A ws hst o z u lv le lk V E K inp w d wV wC hR hI x1) (cwV 1 ht (TW_V k_ml_L_54 k_im_C_uses k_se_C_uses k_in_C k_code_C_uses) rfl rfl rfl hv_C_uses ⟨Nat.le_of_ble_eq_true rfl, Nat.le_of_ble_eq_true rfl⟩) ⟨x_blind, va_recv hK hP rfl ho0, x_pre hE hA va_S.rf hP hD⟩ rfl rfl hl.1 rfl (lv_room (Nat.le_of_ble_eq_true rfl)) d_L_uses_4 ⟨Nat.le_of_ble_eq_true rfl, Nat.le_of_ble_eq_true rfl⟩) hS (fun _ _ h => Or.inl h) (fun _ h => Or.inl h) (fun _ _ h => Or.inl h) (fun Ex ce q9 w9 t9 H locs h9 _ _ hB hz hq hS hce hcv hcl => ?_) (fun r w9 t9 H locs h9 _ hp hB hz hq hS => ?_)
  · obtain ⟨hp, hP1, hD1⟩ := hB
    rw [h9] at hP1
    have hPo1 := keepO hPo hq hoA
    obtain ⟨hR1, rfl, c1⟩ := hp
    refine vx_catch (own := R_L) hown [] ⟨0, 9, 12, 13⟩ [] htab (fun z hz => nomatch hz) rfl (by decide) (ht _ k_cl_L_13) (va_Nw.use rfl (hE.2.2.2.2.2.2.2 _ k_ca_IllegalArgumentException_IllegalArgumentException)) hce hcv hcl ?_
    refine lv_astore_n (lv' := [(3, .ref q9), (0, .ref o), (1, .int x1), (2, .ref out)]) hx hb d_L_uses_12 rfl hl (by decide) rfl (fun ls hl => ?_)
    refine lv_iconst (v := (nI 1)) hx hb d_L_uses_13 (by decide) ?_
    exact W.widen (Nat.le_of_ble_eq_true rfl) (Nat.le_of_ble_eq_true rfl) (W.iret (v := nI 1) hx hb hr (fun t8 h8 _ => ⟨⟨nI 1, (w9, f), rfl, Or.inr (⟨rfl, hR1, c1⟩), ⟨by rw [h8]; exact hP1, hD1⟩, by rw [h8]; exact hPo1⟩, hS.F h8⟩) hS.2.2 d_L_uses_14 hlocks)
  · obtain ⟨hP1, hD1⟩ := hB
    rw [h9] at hP1
    have hPo1 := keepO hPo hq hoA
    have hPc := hP1.app hPo1
    have hDc := D_out (e := aJ G 1 f) hD1 hoA
    refine lv_i2l (v := r.toInt64) hx hb d_L_uses_7 rfl ?_
    refine va_last hx hb hK hPc hDc hS w9.length 1 w_new0 rfl (vp_in_nI (by decide) (by decide)) d_L_uses_8 (fun H locs hP2 hD2 hS => ?_)
    rw [set_last] at hP2
    have hP3 : va_P (xD G) CL w9 H := hP2.by id (fun k q hk => w_app hk)
    have hPo3 : va_P (xD G) CL [(out, aJ G 1 (vp_updL f (nI 0).toNatClampNeg r.toInt64))] H := hP2.by (fun _ => w9.length) (fun k q hk => by rw [(sgl hk).2]; exact w_new0)
    refine lv_goto (tgt := 15) hx hb d_L_uses_9 (by decide) ?_
    refine lv_iconst (v := (nI 0)) hx hb d_L_uses_15 (by decide) ?_
    exact W.widen (Nat.le_of_ble_eq_true rfl) (Nat.le_of_ble_eq_true rfl) (W.iret (v := nI 0) hx hb hr (fun t8 h8 _ => ⟨⟨nI 0, (w9, vp_updL f (nI 0).toNatClampNeg r.toInt64), rfl, Or.inl ⟨rfl, r, by show vp_updL f (nI 0).toNatClampNeg r.toInt64 0 = _; rw [nI_clamp (by decide)]; exact pk_uLs, hp⟩, ⟨by rw [h8]; exact hP3, hD1⟩, by rw [h8]; exact hPo3⟩, hS.F h8⟩) hS.2.2 d_L_uses_16 hlocks)

set_option maxHeartbeats 4000000 in
set_option maxRecDepth 100000 in
theorem w_count (l : Launch) (G : xG) (A : Nat → Prop) (ws : va_W) (hst : l.stackTraces = false) (o z u lv le lk : Nat) (V : List VV) (E : List EE) (K : List KK) (inp : Nat) (w d : Nat → Nat) (wV wC : Nat) (hR : CCs G ws o z u lv le lk V E K inp w d wV wC) (hI : okI V E K inp wV wC) (x1 : Int32) (out : Nat) (f : Nat → Int64) : Met l y_L_count (cw_L_count :: TW) { frames := 14, cells := 40, slots := 2000, locals := 364 } (va_Pc [.ref o, .int x1, .ref out] (wP G A ws out f)) (va_Qi (fun r (u9 : va_W × (Nat → Int64)) => (r = nI 0 ∧ ∃ v9 : Int32, u9.2 0 = v9.toInt64 ∧ CCs G u9.1 o z u lv le lk V E K inp w d wV wC ∧ ∃ k, k < 6 ∧ x1 = nI k ∧ v9 = nI (cnt k V E K inp wV)) ∨ (r = nI 1 ∧ CCs G u9.1 o z u lv le lk V E K inp w d wV wC ∧ (¬ md 6 x1))) (wB G A out) (wA A out)) 40 2000 (wA A out) := by
  refine va_MetW (cc := b_L_count) (maxL := 4) (ret := (some .int)) (by decide) rfl ?_
  intro p e s m args below meth c s₁ B hml hv
  obtain ⟨rfl, ⟨hE, hA, hP, hD⟩, hPo, hoA, hN⟩ := hv
  have hx := B.exec
  have hb := B.bytes
  have hr := B.returns
  have ht : ∀ w ∈ TW, w.before _ s = true := fun w h => atoms_spec (ws := cw_L_count :: TW) B.pre w (List.mem_cons_of_mem _ h)
  have hown : s.vm.findClass R_L = some m.cls := findClass_of_methodNamed B.named
  have hlocks := B.notSynchronized
  have htab := vx_table (x := y_L_count) B (atoms_spec (ws := cw_L_count :: TW) B.pre _ List.mem_cons_self)
  have hK := hE.1
  have hS : va_S (wA A out) s.heap s.heap [] := va_S.rf
  obtain ⟨wa0, da0, ho0⟩ := CCs.o hR
  have hl := lv_entry ([.ref o, .int x1, .ref out]) (n := 4) (Nat.le_of_ble_eq_true rfl)
  rw [lg_entry_eq]
  generalize (lg_sl ([.ref o, .int x1, .ref out]) ++ List.replicate (4 - (lg_sl ([.ref o, .int x1, .ref out])).length) Slot.unset).toArray = ls at hl ⊢
  have hl : lv_has ls 4 [(0, .ref o), (1, .int x1), (2, .ref out)] := hl
  refine lv_aload_n hx hb d_L_count_0 rfl (lv_at hl 2 rfl) ?_
  refine lv_iconst (v := (nI 0)) hx hb d_L_count_1 (by decide) ?_
  refine lv_aload_n hx hb d_L_count_2 rfl (lv_at hl 0 rfl) ?_
  refine lv_iload_n hx hb d_L_count_3 rfl (lv_at hl 1 rfl) ?_
  refine vx_calli (A0 := wA A out) (A1 := A) (AX := A) (vx_runV (As := [.int x1]) (rest := [.int (nI 0), .ref out]) ⟨hx, hb, hml, hown, ht⟩ (c_count l G A ws hst o z u lv le lk V E K inp w d wV wC hR hI x1) (cwV 1 ht (TW_V k_ml_L_57 k_im_C_count k_se_C_count k_in_C k_code_C_count) rfl rfl rfl hv_C_count ⟨Nat.le_of_ble_eq_true rfl, Nat.le_of_ble_eq_true rfl⟩) ⟨x_blind, va_recv hK hP rfl ho0, x_pre hE hA va_S.rf hP hD⟩ rfl rfl hl.1 rfl (lv_room (Nat.le_of_ble_eq_true rfl)) d_L_count_4 ⟨Nat.le_of_ble_eq_true rfl, Nat.le_of_ble_eq_true rfl⟩) hS (fun _ _ h => Or.inl h) (fun _ h => Or.inl h) (fun _ _ h => Or.inl h) (fun Ex ce q9 w9 t9 H locs h9 _ _ hB hz hq hS hce hcv hcl => ?_) (fun r w9 t9 H locs h9 _ hp hB hz hq hS => ?_)
  · obtain ⟨hp, hP1, hD1⟩ := hB
    rw [h9] at hP1
    have hPo1 := keepO hPo hq hoA
    obtain ⟨hR1, rfl, c1⟩ := hp
    refine vx_catch (own := R_L) hown [] ⟨0, 9, 12, 13⟩ [] htab (fun z hz => nomatch hz) rfl (by decide) (ht _ k_cl_L_13) (va_Nw.use rfl (hE.2.2.2.2.2.2.2 _ k_ca_IllegalArgumentException_IllegalArgumentException)) hce hcv hcl ?_
    refine lv_astore_n (lv' := [(3, .ref q9), (0, .ref o), (1, .int x1), (2, .ref out)]) hx hb d_L_count_12 rfl hl (by decide) rfl (fun ls hl => ?_)
    refine lv_iconst (v := (nI 1)) hx hb d_L_count_13 (by decide) ?_
    exact W.widen (Nat.le_of_ble_eq_true rfl) (Nat.le_of_ble_eq_true rfl) (W.iret (v := nI 1) hx hb hr (fun t8 h8 _ => ⟨⟨nI 1, (w9, f), rfl, Or.inr (⟨rfl, hR1, c1⟩), ⟨by rw [h8]; exact hP1, hD1⟩, by rw [h8]; exact hPo1⟩, hS.F h8⟩) hS.2.2 d_L_count_14 hlocks)
  · obtain ⟨hP1, hD1⟩ := hB
    rw [h9] at hP1
    have hPo1 := keepO hPo hq hoA
    have hPc := hP1.app hPo1
    have hDc := D_out (e := aJ G 1 f) hD1 hoA
    refine lv_i2l (v := r.toInt64) hx hb d_L_count_7 rfl ?_
    refine va_last hx hb hK hPc hDc hS w9.length 1 w_new0 rfl (vp_in_nI (by decide) (by decide)) d_L_count_8 (fun H locs hP2 hD2 hS => ?_)
    rw [set_last] at hP2
    have hP3 : va_P (xD G) CL w9 H := hP2.by id (fun k q hk => w_app hk)
    have hPo3 : va_P (xD G) CL [(out, aJ G 1 (vp_updL f (nI 0).toNatClampNeg r.toInt64))] H := hP2.by (fun _ => w9.length) (fun k q hk => by rw [(sgl hk).2]; exact w_new0)
    refine lv_goto (tgt := 15) hx hb d_L_count_9 (by decide) ?_
    refine lv_iconst (v := (nI 0)) hx hb d_L_count_15 (by decide) ?_
    exact W.widen (Nat.le_of_ble_eq_true rfl) (Nat.le_of_ble_eq_true rfl) (W.iret (v := nI 0) hx hb hr (fun t8 h8 _ => ⟨⟨nI 0, (w9, vp_updL f (nI 0).toNatClampNeg r.toInt64), rfl, Or.inl ⟨rfl, r, by show vp_updL f (nI 0).toNatClampNeg r.toInt64 0 = _; rw [nI_clamp (by decide)]; exact pk_uLs, hp⟩, ⟨by rw [h8]; exact hP3, hD1⟩, by rw [h8]; exact hPo3⟩, hS.F h8⟩) hS.2.2 d_L_count_16 hlocks)
