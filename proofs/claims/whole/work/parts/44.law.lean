theorem sub5 {n : Nat} (h : n ≤ 2560) : (nI n - nI 5).toInt = (n : Int) - 5 := by
  by_cases h5 : 5 ≤ n
  · rw [pk_sub h5, nI_toInt (by omega)]; omega
  · have hq : n = 0 ∨ n = 1 ∨ n = 2 ∨ n = 3 ∨ n = 4 := by omega
    rcases hq with rfl | rfl | rfl | rfl | rfl <;> decide
theorem n_inc5 (k : Nat) : nI (5 * k) + Int32.ofInt 5 = nI (5 * (k + 1)) := by
  rw [show Int32.ofInt 5 = nI 5 from rfl, nI_add, Nat.mul_add, Nat.mul_one]

set_option maxHeartbeats 4000000 in
set_option maxRecDepth 100000 in
theorem law_loop {p : Program} {l : Launch} {e : Env} {s : State} {m : MethodId} {below : List Frame} {meth : Method} {c : Code} {b L : Nat} {xs : Nat → Int32} {G : xG} (hc : lawC l p s m meth c b L xs G) {o z u lv le lk : Nat} {a : MA} {out : Nat} : ∀ (n k : Nat), k + n = 513 → ∀ (st : MS) (wc : va_W) (f : Nat → Int64) (H : Heap) (locs : List Loc) (ls : Array Slot), LI G s.heap.size H wc (mW G a st) out f → Jst G o z u lv le lk wc st → va_S (fun q => s.heap.size ≤ q) s.heap H locs → lv_has ls 7 [(4, .int (nI (5 * k))), (0, .ref b), (1, .ref o), (2, .ref a.m), (3, .ref out)] → W p l e room_1 s m #[Value.ref b] below meth c H locs (26 + 40 * k) (19095 + 2000 * k) (lw_Z below #[Value.ref b] s) (F0 m 23 ls []) := by
  obtain ⟨hst, C0, hL, hE, hN⟩ := id hc
  obtain ⟨hx, hb, hr, hml, hown, hts, hX, hbl, hlocks, hgv⟩ := id C0
  have ht : ∀ w ∈ TW, w.before #[Value.ref b] s = true := fun w h => hts w (List.mem_filter.mp h).1
  have hK := hE.1
  intro n
  induction n with
  | zero =>
    intro k hk0 st wc f H locs ls hI hJ hS hl
    refine lv_iload hx hb d_L_law_23 (lv_at hl 0 rfl) ?_
    refine lv_aload_n hx hb d_L_law_25 rfl (lv_at hl 1 rfl) ?_
    refine va_slen hx hb hX hbl (A := fun q => s.heap.size ≤ q) (Nat.not_le.mpr hbl) hS d_L_law_26 ?_
    refine x_top (nI L) rfl ?_
    refine lv_iconst (v := (nI 5)) hx hb d_L_law_27 (by decide) ?_
    refine lv_isub hx hb d_L_law_28 ?_
    refine lv_icmp_gt (tgt := 850) hx hb d_L_law_29 (by decide) (fun hg => ?_) (fun hg => ?_)
    · refine lv_iconst (v := 1) hx hb d_L_law_850 (by decide) ?_
      refine va_forget hS.2.2 ?_
      refine W.widen (k := 601024) (n := 7293034) (by omega) (by omega) ?_
      exact lw_ret hx hb hr hlocks d_L_law_851
    · exfalso
      rw [Int32.lt_iff_toInt_lt, sub5 hL, nI_toInt (by omega)] at hg
      omega
  | succ n ih =>
    intro k hk0 st wc f H locs ls hI hJ hS hl
    refine lv_iload hx hb d_L_law_23 (lv_at hl 0 rfl) ?_
    refine lv_aload_n hx hb d_L_law_25 rfl (lv_at hl 1 rfl) ?_
    refine va_slen hx hb hX hbl (A := fun q => s.heap.size ≤ q) (Nat.not_le.mpr hbl) hS d_L_law_26 ?_
    refine x_top (nI L) rfl ?_
    refine lv_iconst (v := (nI 5)) hx hb d_L_law_27 (by decide) ?_
    refine lv_isub hx hb d_L_law_28 ?_
    refine lv_icmp_gt (tgt := 850) hx hb d_L_law_29 (by decide) (fun hg => ?_) (fun hg => ?_)
    · refine lv_iconst (v := 1) hx hb d_L_law_850 (by decide) ?_
      refine va_forget hS.2.2 ?_
      refine W.widen (k := 601024) (n := 7293034) (by omega) (by omega) ?_
      exact lw_ret hx hb hr hlocks d_L_law_851
    · rw [Int32.lt_iff_toInt_lt, sub5 hL, nI_toInt (by omega)] at hg
      have hk : 5 * k + 5 ≤ L := by omega
      have next : ∀ (st2 : MS) (wc2 : va_W) (f2 : Nat → Int64) (H2 : Heap) (locs2 : List Loc) (ls2 : Array Slot), LI G s.heap.size H2 wc2 (mW G a st2) out f2 → Jst G o z u lv le lk wc2 st2 → va_S (fun q => s.heap.size ≤ q) s.heap H2 locs2 → lv_has ls2 7 [(4, .int (nI (5 * k))), (0, .ref b), (1, .ref o), (2, .ref a.m), (3, .ref out)] → W p l e room_1 s m #[Value.ref b] below meth c H2 locs2 (26 + 40 * (k + 1)) (19095 + 2000 * (k + 1)) (lw_Z below #[Value.ref b] s) (F0 m 844 ls2 []) := by
        intro st2 wc2 f2 H2 locs2 ls hI hJ hS hl
        refine lv_iinc (v := nI (5 * (k + 1))) (lv' := [(4, .int (nI (5 * (k + 1)))), (0, .ref b), (1, .ref o), (2, .ref a.m), (3, .ref out)]) hx hb d_L_law_844 hl (k := 0) rfl (n_inc5 k) (by decide) rfl (fun ls hl => ?_)
        refine lv_goto (tgt := 23) hx hb d_L_law_847 (by decide) ?_
        exact ih (k + 1) (by omega) st2 wc2 f2 H2 locs2 ls hI hJ hS hl
      refine lv_aload_n hx hb d_L_law_32 rfl (lv_at hl 1 rfl) ?_
      refine lv_iload hx hb d_L_law_33 (lv_at hl 0 rfl) ?_
      refine x_sld hx hb hX hbl hS (5 * k) (by omega) hL d_L_law_35 ?_
      refine lv_bipush (v := (nI 15)) hx hb d_L_law_36 (by decide) ?_
      refine lv_iand hx hb d_L_law_38 ?_
      by_cases hm : md 12 (xs (5 * k) &&& nI 15)
      · obtain ⟨j, hj, ej⟩ := hm
        have hj9 : j = 0 ∨ j = 1 ∨ j = 2 ∨ j = 3 ∨ j = 4 ∨ j = 5 ∨ j = 6 ∨ j = 7 ∨ j = 8 ∨ j = 9 ∨ j = 10 ∨ j = 11 := by omega
        rcases hj9 with rfl | rfl | rfl | rfl | rfl | rfl | rfl | rfl | rfl | rfl | rfl | rfl
        · refine x_top (nI 0) ej ?_
          refine lv_tableIn (off := 61) (tgt := 100) hx hb d_L_law_39 (by decide) (by decide) (by decide) (by decide) ?_
          exact law_expression hc hk hI hJ hS hl next
        · refine x_top (nI 1) ej ?_
          refine lv_tableIn (off := 153) (tgt := 192) hx hb d_L_law_39 (by decide) (by decide) (by decide) (by decide) ?_
          exact law_claim hc hk hI hJ hS hl next
        · refine x_top (nI 2) ej ?_
          refine lv_tableIn (off := 233) (tgt := 272) hx hb d_L_law_39 (by decide) (by decide) (by decide) (by decide) ?_
          exact law_give hc hk hI hJ hS hl next
        · refine x_top (nI 3) ej ?_
          refine lv_tableIn (off := 301) (tgt := 340) hx hb d_L_law_39 (by decide) (by decide) (by decide) (by decide) ?_
          exact law_solve hc hk hI hJ hS hl next
        · refine x_top (nI 4) ej ?_
          refine lv_tableIn (off := 345) (tgt := 384) hx hb d_L_law_39 (by decide) (by decide) (by decide) (by decide) ?_
          exact law_value hc hk hI hJ hS hl next
        · refine x_top (nI 5) ej ?_
          refine lv_tableIn (off := 401) (tgt := 440) hx hb d_L_law_39 (by decide) (by decide) (by decide) (by decide) ?_
          exact law_tamper hc hk hI hJ hS hl next
        · refine x_top (nI 6) ej ?_
          refine lv_tableIn (off := 469) (tgt := 508) hx hb d_L_law_39 (by decide) (by decide) (by decide) (by decide) ?_
          exact law_broken hc hk hI hJ hS hl next
        · refine x_top (nI 7) ej ?_
          refine lv_tableIn (off := 513) (tgt := 552) hx hb d_L_law_39 (by decide) (by decide) (by decide) (by decide) ?_
          exact law_first hc hk hI hJ hS hl next
        · refine x_top (nI 8) ej ?_
          refine lv_tableIn (off := 557) (tgt := 596) hx hb d_L_law_39 (by decide) (by decide) (by decide) (by decide) ?_
          exact law_coefficient hc hk hI hJ hS hl next
        · refine x_top (nI 9) ej ?_
          refine lv_tableIn (off := 637) (tgt := 676) hx hb d_L_law_39 (by decide) (by decide) (by decide) (by decide) ?_
          exact law_terms hc hk hI hJ hS hl next
        · refine x_top (nI 10) ej ?_
          refine lv_tableIn (off := 693) (tgt := 732) hx hb d_L_law_39 (by decide) (by decide) (by decide) (by decide) ?_
          exact law_uses hc hk hI hJ hS hl next
        · refine x_top (nI 11) ej ?_
          refine lv_tableIn (off := 749) (tgt := 788) hx hb d_L_law_39 (by decide) (by decide) (by decide) (by decide) ?_
          exact law_count hc hk hI hJ hS hl next
      · refine lv_tableOut (tgt := 844) hx hb d_L_law_39 (by have := not_md (by decide) hm; omega) (by decide) ?_
        refine W.widen (k := 26 + 40 * (k + 1)) (n := 19095 + 2000 * (k + 1)) (by omega) (by omega) ?_
        exact next st wc f H locs ls hI hJ hS hl

section XV
variable {p : Program} {l : Launch} {e : Env} {R : Room} {s : State} {m : MethodId} {args : Array Value} {below : List Frame} {meth : Method} {c : Code} {H : Heap} {locs : List Loc} {cells slots : Nat} {Q : State → Prop}
variable {cc : ByteArray} {pc : Nat} {ls : Array Slot} {rest st0 : List Value} {G : xG} {wc wm : va_W} {mc ms : Nat} {a : Array Value}
theorem x_callMv {post : va_W → Prop} (h1 : va_P (xD G) CL wc H) (h4 : va_D (fun q => s.heap.size ≤ q) wc) (h5 : va_D (fun q => s.heap.size ≤ q) wm) (h7 : ∀ (i j : Nat) (p q : Nat × va_E), wc[i]? = some p → wm[j]? = some q → p.1 ≠ q.1) (hr : va_Run p l e R s m args below meth c H locs cells slots mc ms (F0 m pc ls st0) rest (qV G (va_A wm H.size) post a) (va_A wm H.size)) (hS : va_S (fun q => s.heap.size ≤ q) s.heap H locs)
    (kk : ∀ (w : va_W) (H1 : Heap) (locs1 : List Loc), post w → va_P (xD G) CL wc H1 → va_P (xD G) CL w H1 → va_D (fun q => s.heap.size ≤ q) w → (∀ (i j : Nat) (p q : Nat × va_E), wc[i]? = some p → w[j]? = some q → p.1 ≠ q.1) → va_S (fun q => s.heap.size ≤ q) s.heap H1 locs1 → W p l e R s m args below meth c H1 locs1 (cells + mc) (slots + ms) Q (F0 m (pc + 3) ls rest)) : W p l e R s m args below meth c H locs cells slots Q (F0 m pc ls st0) := by
  refine va_callv hr hS (fun q _ h => va_A_sub h5 hS.1 q h) (fun q h => va_A_sub h5 hS.1 q h) (fun w t H1 locs1 e9 _ hq hB hz hk hS1 => ?_)
  obtain ⟨hP, hD⟩ := hB
  rw [e9] at hP
  refine kk w H1 locs1 hq (h1.kept (fun k q hkq => hk q.1 (vx_lt h1 hkq) ?_)) hP (hD.weaken (fun k q _ h => va_A_sub h5 hS.1 q.1 h)) ?_ hS1
  · rintro (⟨k2, e2, hk2⟩ | h)
    · exact h7 k k2 q _ hkq hk2 rfl
    · exact absurd (vx_lt h1 hkq) (by omega)
  · intro i j x y hi hj e
    rcases hD.2 j y hj with ⟨k, e2, hk2⟩ | h
    · exact h7 i k x _ hi hk2 e
    · have := vx_lt h1 hi; omega
end XV
theorem dis_last {A : Nat → Prop} {ws : va_W} {x : Nat × va_E} (hD : va_D A (ws ++ [x])) : ∀ (i : Nat) (p : Nat × va_E), ws[i]? = some p → p.1 ≠ x.1 := by
  intro i p hi e
  have h1 := hD.1 i ws.length p x (w_app hi) w_new0 e
  have h2 := w_lt hi
  omega

set_option maxHeartbeats 4000000 in
set_option maxRecDepth 100000 in
/-- from the entry, for every script of at most 2560 ints, the law comes to its end with true -/
theorem whole_start {p : Program} {e : Env} {s : State} {m : MethodId} {below : List Frame} {meth : Method} {c : Code} (l : Launch) (hst : l.stackTraces = false) {b L : Nat} {xs : Nat → Int32} (hL : L ≤ 2560) (C0 : lw_At p s m meth c b L xs) : W p l e room_1 s m #[Value.ref b] below meth c s.heap [] 0 0 (lw_Z below #[Value.ref b] s) (entryFrame m ([Value.ref b] : List Value).toArray 7) := by
  obtain ⟨G, hE, hN⟩ := x_start C0
  have hc : lawC l p s m meth c b L xs G := ⟨hst, C0, hL, hE, hN⟩
  obtain ⟨hx, hb, hr, hml, hown, hts, hX, hbl, hlocks, hgv⟩ := id C0
  have ht : ∀ w ∈ TW, w.before #[Value.ref b] s = true := fun w h => hts w (List.mem_filter.mp h).1
  have hK := hE.1
  have hA : ∀ q : Nat, s.heap.size ≤ q → (fun q : Nat => s.heap.size ≤ q) q := fun _ h => h
  have hS : va_S (fun q : Nat => s.heap.size ≤ q) s.heap s.heap [] := va_S.rf
  have hP : va_P (xD G) CL [] s.heap := fun k q h => by simp at h
  have hD : va_D (fun q : Nat => s.heap.size ≤ q) [] := ⟨fun i j p q h => by simp at h, fun k q h => by simp at h⟩
  have hl := lv_entry ([.ref b]) (n := 7) (Nat.le_of_ble_eq_true rfl)
  rw [lg_entry_eq]
  generalize (lg_sl ([.ref b]) ++ List.replicate (7 - (lg_sl ([.ref b])).length) Slot.unset).toArray = ls at hl ⊢
  have hl : lv_has ls 7 [(0, .ref b)] := hl
  refine va_new (ci := 0) (fs := [.null, .null, .null, .null, .null, .int 0, .null, .null, .int 0, .int 0]) (C := R_C) (T := F_C) (N := 10) hx hb ht in_C ft_C fo_C hown (ht _ k_cl_L_8) (ht _ k_new_C) (ht _ k_in_C) hK hP hD hS hA rfl (fun j hj => by rcases (show j = 0 ∨ j = 1 ∨ j = 2 ∨ j = 3 ∨ j = 4 ∨ j = 5 ∨ j = 6 ∨ j = 7 ∨ j = 8 ∨ j = 9 by omega) with rfl | rfl | rfl | rfl | rfl | rfl | rfl | rfl | rfl | rfl <;> rfl) (Nat.le_of_ble_eq_true rfl) (Nat.le_of_ble_eq_true rfl) d_L_law_0 (fun o H hP hD hS => ?_)
  have hP : va_P (xD G) CL [(o, .inr (0, [.null, .null, .null, .null, .null, .int 0, .null, .null, .int 0, .int 0]))] H := hP
  have hD : va_D (fun q : Nat => s.heap.size ≤ q) [(o, .inr (0, [.null, .null, .null, .null, .null, .int 0, .null, .null, .int 0, .int 0]))] := hD
  refine W.widen (k := 1) (n := 10) (Nat.le_of_ble_eq_true rfl) (Nat.le_of_ble_eq_true rfl) ?_
  refine lv_dup hx hb d_L_law_3 rfl ?_
  refine x_callv (va_runI (As := []) (rest := [.ref o]) ⟨hx, hb, hml, hown, ht⟩ (c_C_init l G (fun q : Nat => s.heap.size ≤ q) [(o, .inr (0, [.null, .null, .null, .null, .null, .int 0, .null, .null, .int 0, .int 0]))] o rfl) (cwI 0 ht (TW_good k_code_C_init) rfl rfl rfl (ht _ k_in_C) (ht _ k_ml_L_60) (ht _ k_im_C_init) rfl hv_C_init.2 ⟨Nat.le_of_ble_eq_true rfl, Nat.le_of_ble_eq_true rfl⟩) ⟨x_blind, x_pre hE hA hS hP hD⟩ rfl rfl hl.1 rfl (lv_room (Nat.le_of_ble_eq_true rfl)) d_L_law_4 ⟨Nat.le_of_ble_eq_true rfl, Nat.le_of_ble_eq_true rfl⟩) hS (fun wc H locs hq hP hD hS => ?_)
  obtain ⟨z, u, lv, le, lk, hR⟩ := hq
  refine W.widen (k := 12) (n := 415) (Nat.le_of_ble_eq_true rfl) (Nat.le_of_ble_eq_true rfl) ?_
  refine lv_astore_n (lv' := [(1, .ref o), (0, .ref b)]) hx hb d_L_law_7 rfl hl (by decide) rfl (fun ls hl => ?_)
  refine va_new (ci := 5) (fs := [.int 0, .null, .null, .null, .int 0, .null, .null, .null, .int 0, .null, .int 0, .null, .null, .null, .null, .null, .int 0, .int 0, .int 0]) (C := R_M) (T := F_M) (N := 19) hx hb ht in_M ft_M fo_M hown (ht _ k_cl_L_61) (ht _ k_new_M) (ht _ k_in_M) hK hP hD hS hA rfl (fun j hj => by rcases (show j = 0 ∨ j = 1 ∨ j = 2 ∨ j = 3 ∨ j = 4 ∨ j = 5 ∨ j = 6 ∨ j = 7 ∨ j = 8 ∨ j = 9 ∨ j = 10 ∨ j = 11 ∨ j = 12 ∨ j = 13 ∨ j = 14 ∨ j = 15 ∨ j = 16 ∨ j = 17 ∨ j = 18 by omega) with rfl | rfl | rfl | rfl | rfl | rfl | rfl | rfl | rfl | rfl | rfl | rfl | rfl | rfl | rfl | rfl | rfl | rfl | rfl <;> rfl) (Nat.le_of_ble_eq_true rfl) (Nat.le_of_ble_eq_true rfl) d_L_law_8 (fun m9 H hP hD hS => ?_)
  refine W.widen (k := 13) (n := 434) (Nat.le_of_ble_eq_true rfl) (Nat.le_of_ble_eq_true rfl) ?_
  refine lv_dup hx hb d_L_law_11 rfl ?_
  have hPc : va_P (xD G) CL wc H := hP.by id (fun k q hk => w_app hk)
  have hPm : va_P (xD G) CL [(m9, .inr (5, [.int 0, .null, .null, .null, .int 0, .null, .null, .null, .int 0, .null, .int 0, .null, .null, .null, .null, .null, .int 0, .int 0, .int 0]))] H := hP.by (fun _ => wc.length) (fun k q hk => by rw [(sgl hk).2]; exact w_new0)
  have hDc : va_D (fun q : Nat => s.heap.size ≤ q) wc := hD.by id (fun k q hk => w_app hk) (fun i j _ _ h => h)
  have hDm : va_D (fun q : Nat => s.heap.size ≤ q) [(m9, .inr (5, [.int 0, .null, .null, .null, .int 0, .null, .null, .null, .int 0, .null, .int 0, .null, .null, .null, .null, .null, .int 0, .int 0, .int 0]))] := ⟨fun i j p q hi hj _ => by rw [(sgl hi).1, (sgl hj).1], fun k q hk => by rw [(sgl hk).2]; exact hD.2 wc.length _ w_new0⟩
  have dis := dis_last hD
  refine x_callMv hPc hDc hDm (fun i j p q hi hj => by rw [(sgl hj).2]; exact dis i p hi) (va_runI (As := []) (rest := [.ref m9]) ⟨hx, hb, hml, hown, ht⟩ (c_M_init l G (va_A [(m9, .inr (5, [.int 0, .null, .null, .null, .int 0, .null, .null, .null, .int 0, .null, .int 0, .null, .null, .null, .null, .null, .int 0, .int 0, .int 0]))] H.size) [(m9, .inr (5, [.int 0, .null, .null, .null, .int 0, .null, .null, .null, .int 0, .null, .int 0, .null, .null, .null, .null, .null, .int 0, .int 0, .int 0]))] m9 rfl) (cwI 0 ht (TW_good k_code_M_init) rfl rfl rfl (ht _ k_in_M) (ht _ k_ml_L_63) (ht _ k_im_M_init) rfl hv_M_init.2 ⟨Nat.le_of_ble_eq_true rfl, Nat.le_of_ble_eq_true rfl⟩) ⟨x_blind, x_pre2 hE hS (va_A_sub hDm hS.1) (fun q h => Or.inr h) hPm hDm.self⟩ rfl rfl hl.1 rfl (lv_room (Nat.le_of_ble_eq_true rfl)) d_L_law_12 ⟨Nat.le_of_ble_eq_true rfl, Nat.le_of_ble_eq_true rfl⟩) hS (fun w H locs hq hPc hPw hDw dis2 hS => ?_)
  obtain ⟨a, ea, rfl⟩ := hq
  subst ea
  refine W.widen (k := 25) (n := 19094) (Nat.le_of_ble_eq_true rfl) (Nat.le_of_ble_eq_true rfl) ?_
  refine lv_astore_n (lv' := [(2, .ref a.m), (1, .ref o), (0, .ref b)]) hx hb d_L_law_15 rfl hl (by decide) rfl (fun ls hl => ?_)
  refine lv_iconst (v := (nI 1)) hx hb d_L_law_16 (by decide) ?_
  have hPj := hPc.app hPw
  have hDj := hDc.app hDw dis2
  refine va_newa hx hb (atype := .long) (ht _ k_ac_long) (ty := .long) rfl hK hPj hDj hS hA (N' := 1) (a0 := (1, .inr (.inl (fun _ => 0)))) (fun _ => rfl) (nI_pos (by decide)) (nI_clamp (by decide)) (by decide) (Nat.le_of_ble_eq_true rfl) (Nat.le_of_ble_eq_true rfl) d_L_law_17 (fun out cA H hK2 hP2 hD2 hS => ?_)
  have e1 : s.vm.findClass ("[" ++ FieldType.long.toString) = some cA := (hK2.2 3 (cA, .long) rfl).2
  have e2 : s.vm.findClass ("[" ++ FieldType.long.toString) = some (xJ G) := (hK.2 1 (xJ G, .long) rfl).2
  have e3 : cA = xJ G := Option.some.inj (e1.symm.trans e2)
  subst e3
  refine W.widen (k := 26) (n := 19095) (Nat.le_of_ble_eq_true rfl) (Nat.le_of_ble_eq_true rfl) ?_
  refine lv_astore_n (lv' := [(3, .ref out), (2, .ref a.m), (1, .ref o), (0, .ref b)]) hx hb d_L_law_19 rfl hl (by decide) rfl (fun ls hl => ?_)
  have dis3 := dis_last hD2
  have hI : LI G s.heap.size H wc (mW G a (⟨0, 0, 1, 0, 0, 0, 0, zr, zr, zr, zr, zr, zr, zr, zr, zr, zr, zr, zr⟩ : MS)) out (fun _ => 0) := ⟨hP2.by id (fun k q hk => w_app (w_app hk)), hP2.by (fun k => wc.length + k) (fun k q hk => w_app (by rw [List.getElem?_append_right (by omega), Nat.add_sub_cancel_left]; exact hk)), hP2.by (fun _ => (wc ++ mW G a (⟨0, 0, 1, 0, 0, 0, 0, zr, zr, zr, zr, zr, zr, zr, zr, zr, zr, zr, zr⟩ : MS)).length) (fun k q hk => by rw [(sgl hk).2]; exact w_new0), hDc, hDw, hD2.2 _ _ w_new0, dis2, fun i p hi => dis3 i p (w_app hi), fun j q hj => dis3 (wc.length + j) q (by rw [List.getElem?_append_right (by omega), Nat.add_sub_cancel_left]; exact hj)⟩
  have okV0 : ∀ (i : Nat) (x : VV), ([((0 : Nat), zr, zr, (0 : Nat))] : List VV)[i]? = some x → x.1 ≤ 5 ∧ x.2.2.2 < 97 := by
    intro i x h
    have h1 : i < 1 := (List.getElem?_eq_some_iff.mp h).1
    have h2 : i = 0 := by omega
    subst h2
    cases h
    exact ⟨Nat.le_of_ble_eq_true rfl, Nat.le_of_ble_eq_true rfl⟩
  have hJ : Jst G o z u lv le lk wc (⟨0, 0, 1, 0, 0, 0, 0, zr, zr, zr, zr, zr, zr, zr, zr, zr, zr, zr, zr⟩ : MS) := ⟨[(0, zr, zr, 0)], [], [], 0, zr, zr, 0, 0, hR, ⟨Nat.le_refl _, Nat.le_of_ble_eq_true rfl, Nat.le_of_ble_eq_true rfl, Nat.le_of_ble_eq_true rfl, Nat.le_of_ble_eq_true rfl, Nat.le_of_ble_eq_true rfl, Nat.le_refl _, okV0, fun i x hx9 => by simp at hx9⟩, MRel.ini⟩
  refine lv_iconst (v := (nI 0)) hx hb d_L_law_20 (by decide) ?_
  refine lv_istore (lv' := [(4, .int (nI 0)), (3, .ref out), (2, .ref a.m), (1, .ref o), (0, .ref b)]) hx hb d_L_law_21 hl (by decide) rfl (fun ls hl => ?_)
  exact law_loop hc 513 0 rfl _ _ _ _ _ _ hI hJ hS (lv_sub hl [0, 4, 3, 2, 1] rfl)
