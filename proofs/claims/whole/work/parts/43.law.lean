/-! one round of the law's loop -/
abbrev lawC (l : Launch) (p : Program) (s : State) (m : MethodId) (meth : Method) (c : Code) (b L : Nat) (xs : Nat → Int32) (G : xG) : Prop := l.stackTraces = false ∧ lw_At p s m meth c b L xs ∧ L ≤ 2560 ∧ x_E G (fun q => s.heap.size ≤ q) s s.heap ∧ ncP s

set_option maxHeartbeats 4000000 in
set_option maxRecDepth 100000 in
theorem law_expression {p : Program} {l : Launch} {e : Env} {s : State} {m : MethodId} {below : List Frame} {meth : Method} {c : Code} {b L : Nat} {xs : Nat → Int32} {G : xG} (hc : lawC l p s m meth c b L xs G) {k : Nat} (hk : 5 * k + 5 ≤ L) {o z u lv le lk : Nat} {a : MA} {st : MS} {wc : va_W} {out : Nat} {f : Nat → Int64} {H : Heap} {locs : List Loc} {ls : Array Slot} (hI : LI G s.heap.size H wc (mW G a st) out f) (hJ : Jst G o z u lv le lk wc st) (hS : va_S (fun q => s.heap.size ≤ q) s.heap H locs) (hl : lv_has ls 7 [(4, .int (nI (5 * k))), (0, .ref b), (1, .ref o), (2, .ref a.m), (3, .ref out)]) (next : ∀ (st2 : MS) (wc2 : va_W) (f2 : Nat → Int64) (H2 : Heap) (locs2 : List Loc) (ls2 : Array Slot), LI G s.heap.size H2 wc2 (mW G a st2) out f2 → Jst G o z u lv le lk wc2 st2 → va_S (fun q => s.heap.size ≤ q) s.heap H2 locs2 → lv_has ls2 7 [(4, .int (nI (5 * k))), (0, .ref b), (1, .ref o), (2, .ref a.m), (3, .ref out)] → W p l e room_1 s m #[Value.ref b] below meth c H2 locs2 (26 + 40 * (k + 1)) (19095 + 2000 * (k + 1)) (lw_Z below #[Value.ref b] s) (F0 m 844 ls2 [])) : W p l e room_1 s m #[Value.ref b] below meth c H locs (26 + 40 * k) (19095 + 2000 * k) (lw_Z below #[Value.ref b] s) (F0 m 100 ls []) := by
  obtain ⟨hst, C0, hL, hE, hN⟩ := id hc
  obtain ⟨hx, hb, hr, hml, hown, hts, hX, hbl, hlocks, hgv⟩ := id C0
  have ht : ∀ w ∈ TW, w.before #[Value.ref b] s = true := fun w h => hts w (List.mem_filter.mp h).1
  have hK := hE.1
  obtain ⟨V, E, K, inp, w, d, wV, wC, hR, hO, hM⟩ := hJ
  obtain ⟨wa0, da0, ho0⟩ := CCs.o hR
  refine lv_aload_n hx hb d_L_law_100 rfl (lv_at hl 2 rfl) ?_
  refine lv_aload_n hx hb d_L_law_101 rfl (lv_at hl 1 rfl) ?_
  refine lv_iload hx hb d_L_law_102 (lv_at hl 0 rfl) ?_
  refine lv_iconst (v := (nI 1)) hx hb d_L_law_104 (by decide) ?_
  refine lv_iadd hx hb d_L_law_105 ?_
  refine x_top (nI ((5 * k) + 1)) (nI_add _ _) ?_
  refine x_sld hx hb hX hbl hS (5 * k + 1) (by omega) hL d_L_law_106 ?_
  refine lv_aload_n hx hb d_L_law_107 rfl (lv_at hl 1 rfl) ?_
  refine lv_iload hx hb d_L_law_108 (lv_at hl 0 rfl) ?_
  refine lv_iconst (v := (nI 2)) hx hb d_L_law_110 (by decide) ?_
  refine lv_iadd hx hb d_L_law_111 ?_
  refine x_top (nI ((5 * k) + 2)) (nI_add _ _) ?_
  refine x_sld hx hb hX hbl hS (5 * k + 2) (by omega) hL d_L_law_112 ?_
  refine lv_aload_n hx hb d_L_law_113 rfl (lv_at hl 1 rfl) ?_
  refine lv_iload hx hb d_L_law_114 (lv_at hl 0 rfl) ?_
  refine lv_iconst (v := (nI 3)) hx hb d_L_law_116 (by decide) ?_
  refine lv_iadd hx hb d_L_law_117 ?_
  refine x_top (nI ((5 * k) + 3)) (nI_add _ _) ?_
  refine x_sld hx hb hX hbl hS (5 * k + 3) (by omega) hL d_L_law_118 ?_
  refine lv_aload_n hx hb d_L_law_119 rfl (lv_at hl 1 rfl) ?_
  refine lv_iload hx hb d_L_law_120 (lv_at hl 0 rfl) ?_
  refine lv_iconst (v := (nI 4)) hx hb d_L_law_122 (by decide) ?_
  refine lv_iadd hx hb d_L_law_123 ?_
  refine x_top (nI ((5 * k) + 4)) (nI_add _ _) ?_
  refine x_sld hx hb hX hbl hS (5 * k + 4) (by omega) hL d_L_law_124 ?_
  refine lv_aload_n hx hb d_L_law_125 rfl (lv_at hl 4 rfl) ?_
  refine x_callC hI (vx_runSW (As := [.ref o, .int (xs (5 * k + 1)), .int (xs (5 * k + 2)), .int (xs (5 * k + 3)), .int (xs (5 * k + 4)), .ref out]) (rest := []) ⟨hx, hb, hml, hown, ht⟩ (w_expression l G (va_A wc H.size) wc hst o z u lv le lk V E K inp w d wV wC hR hO (xs (5 * k + 1)) (xs (5 * k + 2)) (xs (5 * k + 3)) (xs (5 * k + 4)) out f) (vx_cwSW 6 ht (TW_S k_ml_L_64 k_st_L_expression k_in_L k_code_L_expression) rfl rfl rfl hv_L_expression.2 ⟨Nat.le_of_ble_eq_true rfl, Nat.le_of_ble_eq_true rfl⟩) ⟨wP_blind, w_pre hE hN hS hI⟩ rfl rfl hl.1 rfl (lv_room (Nat.le_of_ble_eq_true rfl)) d_L_law_126 ⟨by show 26 + 40 * k + 40 ≤ 601024; omega, by show 19095 + 2000 * k + 2000 ≤ 7293034; omega⟩) hS (fun r5 u9 H locs hw hI hS => ?_)
  refine W.widen (k := 26 + 40 * (k + 1)) (n := 19095 + 2000 * (k + 1)) (by omega) (by omega) ?_
  refine lv_istore (lv' := [(5, .int r5), (4, .int (nI (5 * k))), (0, .ref b), (1, .ref o), (2, .ref a.m), (3, .ref out)]) hx hb d_L_law_129 hl (by decide) rfl (fun ls hl => ?_)
  refine lv_aload_n hx hb d_L_law_131 rfl (lv_at hl 4 rfl) ?_
  refine lv_aload_n hx hb d_L_law_132 rfl (lv_at hl 2 rfl) ?_
  refine lv_iload hx hb d_L_law_133 (lv_at hl 1 rfl) ?_
  refine lv_iconst (v := (nI 1)) hx hb d_L_law_135 (by decide) ?_
  refine lv_iadd hx hb d_L_law_136 ?_
  refine x_top (nI ((5 * k) + 1)) (nI_add _ _) ?_
  refine x_sld hx hb hX hbl hS (5 * k + 1) (by omega) hL d_L_law_137 ?_
  refine lv_aload_n hx hb d_L_law_138 rfl (lv_at hl 2 rfl) ?_
  refine lv_iload hx hb d_L_law_139 (lv_at hl 1 rfl) ?_
  refine lv_iconst (v := (nI 2)) hx hb d_L_law_141 (by decide) ?_
  refine lv_iadd hx hb d_L_law_142 ?_
  refine x_top (nI ((5 * k) + 2)) (nI_add _ _) ?_
  refine x_sld hx hb hX hbl hS (5 * k + 2) (by omega) hL d_L_law_143 ?_
  refine lv_aload_n hx hb d_L_law_144 rfl (lv_at hl 2 rfl) ?_
  refine lv_iload hx hb d_L_law_145 (lv_at hl 1 rfl) ?_
  refine lv_iconst (v := (nI 3)) hx hb d_L_law_147 (by decide) ?_
  refine lv_iadd hx hb d_L_law_148 ?_
  refine x_top (nI ((5 * k) + 3)) (nI_add _ _) ?_
  refine x_sld hx hb hX hbl hS (5 * k + 3) (by omega) hL d_L_law_149 ?_
  refine lv_aload_n hx hb d_L_law_150 rfl (lv_at hl 2 rfl) ?_
  refine lv_iload hx hb d_L_law_151 (lv_at hl 1 rfl) ?_
  refine lv_iconst (v := (nI 4)) hx hb d_L_law_153 (by decide) ?_
  refine lv_iadd hx hb d_L_law_154 ?_
  refine x_top (nI ((5 * k) + 4)) (nI_add _ _) ?_
  refine x_sld hx hb hX hbl hS (5 * k + 4) (by omega) hL d_L_law_155 ?_
  refine x_callM hI (va_runV (As := [.int (xs (5 * k + 1)), .int (xs (5 * k + 2)), .int (xs (5 * k + 3)), .int (xs (5 * k + 4))]) (rest := []) ⟨hx, hb, hml, hown, ht⟩ (m_expression l G (va_A (mW G a st) H.size) (mW G a st) a st rfl V E K inp w wV wC hM hO (xs (5 * k + 1)) (xs (5 * k + 2)) (xs (5 * k + 3)) (xs (5 * k + 4))) (cwV 4 ht (TW_V k_ml_L_69 k_im_M_expression k_se_M_expression k_in_M k_code_M_expression) rfl rfl rfl hv_M_expression ⟨Nat.le_of_ble_eq_true rfl, Nat.le_of_ble_eq_true rfl⟩) ⟨x_blind, va_recv hK hI.2.1 (ci := 5) rfl (q0 := 0) rfl, m_pre hE hS hI⟩ rfl rfl hl.1 rfl (lv_room (Nat.le_of_ble_eq_true rfl)) d_L_law_156 ⟨by show 26 + 40 * (k + 1) + 0 ≤ 601024; omega, by show 19095 + 2000 * (k + 1) + 0 ≤ 7293034; omega⟩) hS (fun r6 w9 H locs hm hI hS => ?_)
  refine W.widen (k := 26 + 40 * (k + 1)) (n := 19095 + 2000 * (k + 1)) (by omega) (by omega) ?_
  obtain ⟨st', rfl, hm⟩ := hm
  obtain ⟨hJ, e5, t2, hout⟩ := J_expression hO hw hm
  refine lv_istore (lv' := [(6, .int r6), (5, .int r5), (4, .int (nI (5 * k))), (0, .ref b), (1, .ref o), (2, .ref a.m), (3, .ref out)]) hx hb d_L_law_159 hl (by decide) rfl (fun ls hl => ?_)
  refine lv_aload_n hx hb d_L_law_161 rfl (lv_at hl 5 rfl) ?_
  refine x_callM hI (va_runV (As := []) (rest := []) ⟨hx, hb, hml, hown, ht⟩ (c_M_thrown l G (va_A (mW G a st') H.size) (mW G a st') a st' rfl) (cwV 0 ht (TW_V k_ml_L_70 k_im_M_thrown k_se_M_thrown k_in_M k_code_M_thrown) rfl rfl rfl hv_M_thrown ⟨Nat.le_of_ble_eq_true rfl, Nat.le_of_ble_eq_true rfl⟩) ⟨x_blind, va_recv hK hI.2.1 (ci := 5) rfl (q0 := 0) rfl, m_pre hE hS hI⟩ rfl rfl hl.1 rfl (lv_room (Nat.le_of_ble_eq_true rfl)) d_L_law_162 ⟨by show 26 + 40 * (k + 1) + 0 ≤ 601024; omega, by show 19095 + 2000 * (k + 1) + 0 ≤ 7293034; omega⟩) hS (fun rT w9 H locs hq hI hS => ?_)
  refine W.widen (k := 26 + 40 * (k + 1)) (n := 19095 + 2000 * (k + 1)) (by omega) (by omega) ?_
  obtain ⟨rfl, rfl⟩ := hq
  refine lv_iload hx hb d_L_law_165 (lv_at hl 1 rfl) ?_
  refine x_eq hx hb st'.th st'.th rfl e5 (by omega) (by omega) (tgt := 172) d_L_law_167 (by decide) (fun _ => ?_) (fun q => absurd rfl q)
  refine lv_iload hx hb d_L_law_172 (lv_at hl 1 rfl) ?_
  refine x_if_ne hx hb st'.th e5 (by omega) (tgt := 189) d_L_law_174 (by decide) (fun _ => ?_) (fun q0 => ?_)
  · refine lv_goto (tgt := 844) hx hb d_L_law_189 (by decide) ?_
    exact next st' u9.1 u9.2 H locs ls hI hJ hS (lv_sub hl [2, 3, 4, 5, 6] rfl)
  · refine lv_aload_n hx hb d_L_law_177 rfl (lv_at hl 6 rfl) ?_
    refine lv_iconst (v := (nI 0)) hx hb d_L_law_178 (by decide) ?_
    refine va_lald hx hb hK hI.2.2.1 0 1 rfl rfl (vp_in_nI (by decide) (by decide)) d_L_law_179 ?_
    refine lv_iload hx hb d_L_law_180 (lv_at hl 0 rfl) ?_
    refine lv_i2l (v := r6.toInt64) hx hb d_L_law_182 rfl ?_
    refine W.lcmp hx hb d_L_law_183 ?_
    refine x_top (nI 0) (by rw [nI_clamp (by decide), hout q0]; exact lg_self _) ?_
    refine x_if_eq hx hb 0 rfl (by decide) (tgt := 189) d_L_law_184 (by decide) (fun _ => ?_) (fun q => absurd rfl q)
    refine lv_goto (tgt := 844) hx hb d_L_law_189 (by decide) ?_
    exact next st' u9.1 u9.2 H locs ls hI hJ hS (lv_sub hl [2, 3, 4, 5, 6] rfl)

set_option maxHeartbeats 4000000 in
set_option maxRecDepth 100000 in
theorem law_claim {p : Program} {l : Launch} {e : Env} {s : State} {m : MethodId} {below : List Frame} {meth : Method} {c : Code} {b L : Nat} {xs : Nat → Int32} {G : xG} (hc : lawC l p s m meth c b L xs G) {k : Nat} (hk : 5 * k + 5 ≤ L) {o z u lv le lk : Nat} {a : MA} {st : MS} {wc : va_W} {out : Nat} {f : Nat → Int64} {H : Heap} {locs : List Loc} {ls : Array Slot} (hI : LI G s.heap.size H wc (mW G a st) out f) (hJ : Jst G o z u lv le lk wc st) (hS : va_S (fun q => s.heap.size ≤ q) s.heap H locs) (hl : lv_has ls 7 [(4, .int (nI (5 * k))), (0, .ref b), (1, .ref o), (2, .ref a.m), (3, .ref out)]) (next : ∀ (st2 : MS) (wc2 : va_W) (f2 : Nat → Int64) (H2 : Heap) (locs2 : List Loc) (ls2 : Array Slot), LI G s.heap.size H2 wc2 (mW G a st2) out f2 → Jst G o z u lv le lk wc2 st2 → va_S (fun q => s.heap.size ≤ q) s.heap H2 locs2 → lv_has ls2 7 [(4, .int (nI (5 * k))), (0, .ref b), (1, .ref o), (2, .ref a.m), (3, .ref out)] → W p l e room_1 s m #[Value.ref b] below meth c H2 locs2 (26 + 40 * (k + 1)) (19095 + 2000 * (k + 1)) (lw_Z below #[Value.ref b] s) (F0 m 844 ls2 [])) : W p l e room_1 s m #[Value.ref b] below meth c H locs (26 + 40 * k) (19095 + 2000 * k) (lw_Z below #[Value.ref b] s) (F0 m 192 ls []) := by
  obtain ⟨hst, C0, hL, hE, hN⟩ := id hc
  obtain ⟨hx, hb, hr, hml, hown, hts, hX, hbl, hlocks, hgv⟩ := id C0
  have ht : ∀ w ∈ TW, w.before #[Value.ref b] s = true := fun w h => hts w (List.mem_filter.mp h).1
  have hK := hE.1
  obtain ⟨V, E, K, inp, w, d, wV, wC, hR, hO, hM⟩ := hJ
  obtain ⟨wa0, da0, ho0⟩ := CCs.o hR
  refine lv_aload_n hx hb d_L_law_192 rfl (lv_at hl 2 rfl) ?_
  refine lv_aload_n hx hb d_L_law_193 rfl (lv_at hl 1 rfl) ?_
  refine lv_iload hx hb d_L_law_194 (lv_at hl 0 rfl) ?_
  refine lv_iconst (v := (nI 1)) hx hb d_L_law_196 (by decide) ?_
  refine lv_iadd hx hb d_L_law_197 ?_
  refine x_top (nI ((5 * k) + 1)) (nI_add _ _) ?_
  refine x_sld hx hb hX hbl hS (5 * k + 1) (by omega) hL d_L_law_198 ?_
  refine lv_aload_n hx hb d_L_law_199 rfl (lv_at hl 1 rfl) ?_
  refine lv_iload hx hb d_L_law_200 (lv_at hl 0 rfl) ?_
  refine lv_iconst (v := (nI 2)) hx hb d_L_law_202 (by decide) ?_
  refine lv_iadd hx hb d_L_law_203 ?_
  refine x_top (nI ((5 * k) + 2)) (nI_add _ _) ?_
  refine x_sld hx hb hX hbl hS (5 * k + 2) (by omega) hL d_L_law_204 ?_
  refine lv_aload_n hx hb d_L_law_205 rfl (lv_at hl 1 rfl) ?_
  refine lv_iload hx hb d_L_law_206 (lv_at hl 0 rfl) ?_
  refine lv_iconst (v := (nI 3)) hx hb d_L_law_208 (by decide) ?_
  refine lv_iadd hx hb d_L_law_209 ?_
  refine x_top (nI ((5 * k) + 3)) (nI_add _ _) ?_
  refine x_sld hx hb hX hbl hS (5 * k + 3) (by omega) hL d_L_law_210 ?_
  refine lv_aload_n hx hb d_L_law_211 rfl (lv_at hl 4 rfl) ?_
  refine x_callC hI (vx_runSW (As := [.ref o, .int (xs (5 * k + 1)), .int (xs (5 * k + 2)), .int (xs (5 * k + 3)), .ref out]) (rest := []) ⟨hx, hb, hml, hown, ht⟩ (w_claim l G (va_A wc H.size) wc hst o z u lv le lk V E K inp w d wV wC hR hO (xs (5 * k + 1)) (xs (5 * k + 2)) (xs (5 * k + 3)) out f) (vx_cwSW 5 ht (TW_S k_ml_L_73 k_st_L_claim k_in_L k_code_L_claim) rfl rfl rfl hv_L_claim.2 ⟨Nat.le_of_ble_eq_true rfl, Nat.le_of_ble_eq_true rfl⟩) ⟨wP_blind, w_pre hE hN hS hI⟩ rfl rfl hl.1 rfl (lv_room (Nat.le_of_ble_eq_true rfl)) d_L_law_212 ⟨by show 26 + 40 * k + 40 ≤ 601024; omega, by show 19095 + 2000 * k + 2000 ≤ 7293034; omega⟩) hS (fun r5 u9 H locs hw hI hS => ?_)
  refine W.widen (k := 26 + 40 * (k + 1)) (n := 19095 + 2000 * (k + 1)) (by omega) (by omega) ?_
  refine lv_istore (lv' := [(5, .int r5), (4, .int (nI (5 * k))), (0, .ref b), (1, .ref o), (2, .ref a.m), (3, .ref out)]) hx hb d_L_law_215 hl (by decide) rfl (fun ls hl => ?_)
  refine lv_aload_n hx hb d_L_law_217 rfl (lv_at hl 4 rfl) ?_
  refine lv_aload_n hx hb d_L_law_218 rfl (lv_at hl 2 rfl) ?_
  refine lv_iload hx hb d_L_law_219 (lv_at hl 1 rfl) ?_
  refine lv_iconst (v := (nI 1)) hx hb d_L_law_221 (by decide) ?_
  refine lv_iadd hx hb d_L_law_222 ?_
  refine x_top (nI ((5 * k) + 1)) (nI_add _ _) ?_
  refine x_sld hx hb hX hbl hS (5 * k + 1) (by omega) hL d_L_law_223 ?_
  refine lv_aload_n hx hb d_L_law_224 rfl (lv_at hl 2 rfl) ?_
  refine lv_iload hx hb d_L_law_225 (lv_at hl 1 rfl) ?_
  refine lv_iconst (v := (nI 2)) hx hb d_L_law_227 (by decide) ?_
  refine lv_iadd hx hb d_L_law_228 ?_
  refine x_top (nI ((5 * k) + 2)) (nI_add _ _) ?_
  refine x_sld hx hb hX hbl hS (5 * k + 2) (by omega) hL d_L_law_229 ?_
  refine lv_aload_n hx hb d_L_law_230 rfl (lv_at hl 2 rfl) ?_
  refine lv_iload hx hb d_L_law_231 (lv_at hl 1 rfl) ?_
  refine lv_iconst (v := (nI 3)) hx hb d_L_law_233 (by decide) ?_
  refine lv_iadd hx hb d_L_law_234 ?_
  refine x_top (nI ((5 * k) + 3)) (nI_add _ _) ?_
  refine x_sld hx hb hX hbl hS (5 * k + 3) (by omega) hL d_L_law_235 ?_
  refine x_callM hI (va_runV (As := [.int (xs (5 * k + 1)), .int (xs (5 * k + 2)), .int (xs (5 * k + 3))]) (rest := []) ⟨hx, hb, hml, hown, ht⟩ (m_claim l G (va_A (mW G a st) H.size) (mW G a st) a st rfl V E K inp w wV wC hM hO (xs (5 * k + 1)) (xs (5 * k + 2)) (xs (5 * k + 3))) (cwV 3 ht (TW_V k_ml_L_76 k_im_M_claim k_se_M_claim k_in_M k_code_M_claim) rfl rfl rfl hv_M_claim ⟨Nat.le_of_ble_eq_true rfl, Nat.le_of_ble_eq_true rfl⟩) ⟨x_blind, va_recv hK hI.2.1 (ci := 5) rfl (q0 := 0) rfl, m_pre hE hS hI⟩ rfl rfl hl.1 rfl (lv_room (Nat.le_of_ble_eq_true rfl)) d_L_law_236 ⟨by show 26 + 40 * (k + 1) + 0 ≤ 601024; omega, by show 19095 + 2000 * (k + 1) + 0 ≤ 7293034; omega⟩) hS (fun r6 w9 H locs hm hI hS => ?_)
  refine W.widen (k := 26 + 40 * (k + 1)) (n := 19095 + 2000 * (k + 1)) (by omega) (by omega) ?_
  obtain ⟨st', rfl, hm⟩ := hm
  obtain ⟨hJ, e5, t2, hout⟩ := J_claim hO hw hm
  refine lv_istore (lv' := [(6, .int r6), (5, .int r5), (4, .int (nI (5 * k))), (0, .ref b), (1, .ref o), (2, .ref a.m), (3, .ref out)]) hx hb d_L_law_239 hl (by decide) rfl (fun ls hl => ?_)
  refine lv_aload_n hx hb d_L_law_241 rfl (lv_at hl 5 rfl) ?_
  refine x_callM hI (va_runV (As := []) (rest := []) ⟨hx, hb, hml, hown, ht⟩ (c_M_thrown l G (va_A (mW G a st') H.size) (mW G a st') a st' rfl) (cwV 0 ht (TW_V k_ml_L_70 k_im_M_thrown k_se_M_thrown k_in_M k_code_M_thrown) rfl rfl rfl hv_M_thrown ⟨Nat.le_of_ble_eq_true rfl, Nat.le_of_ble_eq_true rfl⟩) ⟨x_blind, va_recv hK hI.2.1 (ci := 5) rfl (q0 := 0) rfl, m_pre hE hS hI⟩ rfl rfl hl.1 rfl (lv_room (Nat.le_of_ble_eq_true rfl)) d_L_law_242 ⟨by show 26 + 40 * (k + 1) + 0 ≤ 601024; omega, by show 19095 + 2000 * (k + 1) + 0 ≤ 7293034; omega⟩) hS (fun rT w9 H locs hq hI hS => ?_)
  refine W.widen (k := 26 + 40 * (k + 1)) (n := 19095 + 2000 * (k + 1)) (by omega) (by omega) ?_
  obtain ⟨rfl, rfl⟩ := hq
  refine lv_iload hx hb d_L_law_245 (lv_at hl 1 rfl) ?_
  refine x_eq hx hb st'.th st'.th rfl e5 (by omega) (by omega) (tgt := 252) d_L_law_247 (by decide) (fun _ => ?_) (fun q => absurd rfl q)
  refine lv_iload hx hb d_L_law_252 (lv_at hl 1 rfl) ?_
  refine x_if_ne hx hb st'.th e5 (by omega) (tgt := 269) d_L_law_254 (by decide) (fun _ => ?_) (fun q0 => ?_)
  · refine lv_goto (tgt := 844) hx hb d_L_law_269 (by decide) ?_
    exact next st' u9.1 u9.2 H locs ls hI hJ hS (lv_sub hl [2, 3, 4, 5, 6] rfl)
  · refine lv_aload_n hx hb d_L_law_257 rfl (lv_at hl 6 rfl) ?_
    refine lv_iconst (v := (nI 0)) hx hb d_L_law_258 (by decide) ?_
    refine va_lald hx hb hK hI.2.2.1 0 1 rfl rfl (vp_in_nI (by decide) (by decide)) d_L_law_259 ?_
    refine lv_iload hx hb d_L_law_260 (lv_at hl 0 rfl) ?_
    refine lv_i2l (v := r6.toInt64) hx hb d_L_law_262 rfl ?_
    refine W.lcmp hx hb d_L_law_263 ?_
    refine x_top (nI 0) (by rw [nI_clamp (by decide), hout q0]; exact lg_self _) ?_
    refine x_if_eq hx hb 0 rfl (by decide) (tgt := 269) d_L_law_264 (by decide) (fun _ => ?_) (fun q => absurd rfl q)
    refine lv_goto (tgt := 844) hx hb d_L_law_269 (by decide) ?_
    exact next st' u9.1 u9.2 H locs ls hI hJ hS (lv_sub hl [2, 3, 4, 5, 6] rfl)

set_option maxHeartbeats 4000000 in
set_option maxRecDepth 100000 in
theorem law_give {p : Program} {l : Launch} {e : Env} {s : State} {m : MethodId} {below : List Frame} {meth : Method} {c : Code} {b L : Nat} {xs : Nat → Int32} {G : xG} (hc : lawC l p s m meth c b L xs G) {k : Nat} (hk : 5 * k + 5 ≤ L) {o z u lv le lk : Nat} {a : MA} {st : MS} {wc : va_W} {out : Nat} {f : Nat → Int64} {H : Heap} {locs : List Loc} {ls : Array Slot} (hI : LI G s.heap.size H wc (mW G a st) out f) (hJ : Jst G o z u lv le lk wc st) (hS : va_S (fun q => s.heap.size ≤ q) s.heap H locs) (hl : lv_has ls 7 [(4, .int (nI (5 * k))), (0, .ref b), (1, .ref o), (2, .ref a.m), (3, .ref out)]) (next : ∀ (st2 : MS) (wc2 : va_W) (f2 : Nat → Int64) (H2 : Heap) (locs2 : List Loc) (ls2 : Array Slot), LI G s.heap.size H2 wc2 (mW G a st2) out f2 → Jst G o z u lv le lk wc2 st2 → va_S (fun q => s.heap.size ≤ q) s.heap H2 locs2 → lv_has ls2 7 [(4, .int (nI (5 * k))), (0, .ref b), (1, .ref o), (2, .ref a.m), (3, .ref out)] → W p l e room_1 s m #[Value.ref b] below meth c H2 locs2 (26 + 40 * (k + 1)) (19095 + 2000 * (k + 1)) (lw_Z below #[Value.ref b] s) (F0 m 844 ls2 [])) : W p l e room_1 s m #[Value.ref b] below meth c H locs (26 + 40 * k) (19095 + 2000 * k) (lw_Z below #[Value.ref b] s) (F0 m 272 ls []) := by
  obtain ⟨hst, C0, hL, hE, hN⟩ := id hc
  obtain ⟨hx, hb, hr, hml, hown, hts, hX, hbl, hlocks, hgv⟩ := id C0
  have ht : ∀ w ∈ TW, w.before #[Value.ref b] s = true := fun w h => hts w (List.mem_filter.mp h).1
  have hK := hE.1
  obtain ⟨V, E, K, inp, w, d, wV, wC, hR, hO, hM⟩ := hJ
  obtain ⟨wa0, da0, ho0⟩ := CCs.o hR
  refine lv_aload_n hx hb d_L_law_272 rfl (lv_at hl 2 rfl) ?_
  refine lv_aload_n hx hb d_L_law_273 rfl (lv_at hl 1 rfl) ?_
  refine lv_iload hx hb d_L_law_274 (lv_at hl 0 rfl) ?_
  refine lv_iconst (v := (nI 1)) hx hb d_L_law_276 (by decide) ?_
  refine lv_iadd hx hb d_L_law_277 ?_
  refine x_top (nI ((5 * k) + 1)) (nI_add _ _) ?_
  refine x_sld hx hb hX hbl hS (5 * k + 1) (by omega) hL d_L_law_278 ?_
  refine lv_aload_n hx hb d_L_law_279 rfl (lv_at hl 1 rfl) ?_
  refine lv_iload hx hb d_L_law_280 (lv_at hl 0 rfl) ?_
  refine lv_iconst (v := (nI 2)) hx hb d_L_law_282 (by decide) ?_
  refine lv_iadd hx hb d_L_law_283 ?_
  refine x_top (nI ((5 * k) + 2)) (nI_add _ _) ?_
  refine x_sld hx hb hX hbl hS (5 * k + 2) (by omega) hL d_L_law_284 ?_
  refine lv_aload_n hx hb d_L_law_285 rfl (lv_at hl 4 rfl) ?_
  refine x_callC hI (vx_runSW (As := [.ref o, .int (xs (5 * k + 1)), .int (xs (5 * k + 2)), .ref out]) (rest := []) ⟨hx, hb, hml, hown, ht⟩ (w_give l G (va_A wc H.size) wc hst o z u lv le lk V E K inp w d wV wC hR hO (xs (5 * k + 1)) (xs (5 * k + 2)) out f) (vx_cwSW 4 ht (TW_S k_ml_L_77 k_st_L_give k_in_L k_code_L_give) rfl rfl rfl hv_L_give.2 ⟨Nat.le_of_ble_eq_true rfl, Nat.le_of_ble_eq_true rfl⟩) ⟨wP_blind, w_pre hE hN hS hI⟩ rfl rfl hl.1 rfl (lv_room (Nat.le_of_ble_eq_true rfl)) d_L_law_286 ⟨by show 26 + 40 * k + 40 ≤ 601024; omega, by show 19095 + 2000 * k + 2000 ≤ 7293034; omega⟩) hS (fun r5 u9 H locs hw hI hS => ?_)
  refine W.widen (k := 26 + 40 * (k + 1)) (n := 19095 + 2000 * (k + 1)) (by omega) (by omega) ?_
  refine lv_istore (lv' := [(5, .int r5), (4, .int (nI (5 * k))), (0, .ref b), (1, .ref o), (2, .ref a.m), (3, .ref out)]) hx hb d_L_law_289 hl (by decide) rfl (fun ls hl => ?_)
  refine lv_aload_n hx hb d_L_law_291 rfl (lv_at hl 4 rfl) ?_
  refine lv_aload_n hx hb d_L_law_292 rfl (lv_at hl 2 rfl) ?_
  refine lv_iload hx hb d_L_law_293 (lv_at hl 1 rfl) ?_
  refine lv_iconst (v := (nI 1)) hx hb d_L_law_295 (by decide) ?_
  refine lv_iadd hx hb d_L_law_296 ?_
  refine x_top (nI ((5 * k) + 1)) (nI_add _ _) ?_
  refine x_sld hx hb hX hbl hS (5 * k + 1) (by omega) hL d_L_law_297 ?_
  refine lv_aload_n hx hb d_L_law_298 rfl (lv_at hl 2 rfl) ?_
  refine lv_iload hx hb d_L_law_299 (lv_at hl 1 rfl) ?_
  refine lv_iconst (v := (nI 2)) hx hb d_L_law_301 (by decide) ?_
  refine lv_iadd hx hb d_L_law_302 ?_
  refine x_top (nI ((5 * k) + 2)) (nI_add _ _) ?_
  refine x_sld hx hb hX hbl hS (5 * k + 2) (by omega) hL d_L_law_303 ?_
  refine x_callM hI (va_runV (As := [.int (xs (5 * k + 1)), .int (xs (5 * k + 2))]) (rest := []) ⟨hx, hb, hml, hown, ht⟩ (m_give l G (va_A (mW G a st) H.size) (mW G a st) a st rfl V E K inp w wV wC hM hO (xs (5 * k + 1)) (xs (5 * k + 2))) (cwV 2 ht (TW_V k_ml_L_80 k_im_M_give k_se_M_give k_in_M k_code_M_give) rfl rfl rfl hv_M_give ⟨Nat.le_of_ble_eq_true rfl, Nat.le_of_ble_eq_true rfl⟩) ⟨x_blind, va_recv hK hI.2.1 (ci := 5) rfl (q0 := 0) rfl, m_pre hE hS hI⟩ rfl rfl hl.1 rfl (lv_room (Nat.le_of_ble_eq_true rfl)) d_L_law_304 ⟨by show 26 + 40 * (k + 1) + 0 ≤ 601024; omega, by show 19095 + 2000 * (k + 1) + 0 ≤ 7293034; omega⟩) hS (fun r6 w9 H locs hm hI hS => ?_)
  refine W.widen (k := 26 + 40 * (k + 1)) (n := 19095 + 2000 * (k + 1)) (by omega) (by omega) ?_
  obtain ⟨st', rfl, hm⟩ := hm
  obtain ⟨hJ, e5, t2, hout⟩ := J_give hO hw hm
  refine lv_istore (lv' := [(6, .int r6), (5, .int r5), (4, .int (nI (5 * k))), (0, .ref b), (1, .ref o), (2, .ref a.m), (3, .ref out)]) hx hb d_L_law_307 hl (by decide) rfl (fun ls hl => ?_)
  refine lv_aload_n hx hb d_L_law_309 rfl (lv_at hl 5 rfl) ?_
  refine x_callM hI (va_runV (As := []) (rest := []) ⟨hx, hb, hml, hown, ht⟩ (c_M_thrown l G (va_A (mW G a st') H.size) (mW G a st') a st' rfl) (cwV 0 ht (TW_V k_ml_L_70 k_im_M_thrown k_se_M_thrown k_in_M k_code_M_thrown) rfl rfl rfl hv_M_thrown ⟨Nat.le_of_ble_eq_true rfl, Nat.le_of_ble_eq_true rfl⟩) ⟨x_blind, va_recv hK hI.2.1 (ci := 5) rfl (q0 := 0) rfl, m_pre hE hS hI⟩ rfl rfl hl.1 rfl (lv_room (Nat.le_of_ble_eq_true rfl)) d_L_law_310 ⟨by show 26 + 40 * (k + 1) + 0 ≤ 601024; omega, by show 19095 + 2000 * (k + 1) + 0 ≤ 7293034; omega⟩) hS (fun rT w9 H locs hq hI hS => ?_)
  refine W.widen (k := 26 + 40 * (k + 1)) (n := 19095 + 2000 * (k + 1)) (by omega) (by omega) ?_
  obtain ⟨rfl, rfl⟩ := hq
  refine lv_iload hx hb d_L_law_313 (lv_at hl 1 rfl) ?_
  refine x_eq hx hb st'.th st'.th rfl e5 (by omega) (by omega) (tgt := 320) d_L_law_315 (by decide) (fun _ => ?_) (fun q => absurd rfl q)
  refine lv_iload hx hb d_L_law_320 (lv_at hl 1 rfl) ?_
  refine x_if_ne hx hb st'.th e5 (by omega) (tgt := 337) d_L_law_322 (by decide) (fun _ => ?_) (fun q0 => ?_)
  · refine lv_goto (tgt := 844) hx hb d_L_law_337 (by decide) ?_
    exact next st' u9.1 u9.2 H locs ls hI hJ hS (lv_sub hl [2, 3, 4, 5, 6] rfl)
  · refine lv_aload_n hx hb d_L_law_325 rfl (lv_at hl 6 rfl) ?_
    refine lv_iconst (v := (nI 0)) hx hb d_L_law_326 (by decide) ?_
    refine va_lald hx hb hK hI.2.2.1 0 1 rfl rfl (vp_in_nI (by decide) (by decide)) d_L_law_327 ?_
    refine lv_iload hx hb d_L_law_328 (lv_at hl 0 rfl) ?_
    refine lv_i2l (v := r6.toInt64) hx hb d_L_law_330 rfl ?_
    refine W.lcmp hx hb d_L_law_331 ?_
    refine x_top (nI 0) (by rw [nI_clamp (by decide), hout q0]; exact lg_self _) ?_
    refine x_if_eq hx hb 0 rfl (by decide) (tgt := 337) d_L_law_332 (by decide) (fun _ => ?_) (fun q => absurd rfl q)
    refine lv_goto (tgt := 844) hx hb d_L_law_337 (by decide) ?_
    exact next st' u9.1 u9.2 H locs ls hI hJ hS (lv_sub hl [2, 3, 4, 5, 6] rfl)

set_option maxHeartbeats 4000000 in
set_option maxRecDepth 100000 in
theorem law_solve {p : Program} {l : Launch} {e : Env} {s : State} {m : MethodId} {below : List Frame} {meth : Method} {c : Code} {b L : Nat} {xs : Nat → Int32} {G : xG} (hc : lawC l p s m meth c b L xs G) {k : Nat} (hk : 5 * k + 5 ≤ L) {o z u lv le lk : Nat} {a : MA} {st : MS} {wc : va_W} {out : Nat} {f : Nat → Int64} {H : Heap} {locs : List Loc} {ls : Array Slot} (hI : LI G s.heap.size H wc (mW G a st) out f) (hJ : Jst G o z u lv le lk wc st) (hS : va_S (fun q => s.heap.size ≤ q) s.heap H locs) (hl : lv_has ls 7 [(4, .int (nI (5 * k))), (0, .ref b), (1, .ref o), (2, .ref a.m), (3, .ref out)]) (next : ∀ (st2 : MS) (wc2 : va_W) (f2 : Nat → Int64) (H2 : Heap) (locs2 : List Loc) (ls2 : Array Slot), LI G s.heap.size H2 wc2 (mW G a st2) out f2 → Jst G o z u lv le lk wc2 st2 → va_S (fun q => s.heap.size ≤ q) s.heap H2 locs2 → lv_has ls2 7 [(4, .int (nI (5 * k))), (0, .ref b), (1, .ref o), (2, .ref a.m), (3, .ref out)] → W p l e room_1 s m #[Value.ref b] below meth c H2 locs2 (26 + 40 * (k + 1)) (19095 + 2000 * (k + 1)) (lw_Z below #[Value.ref b] s) (F0 m 844 ls2 [])) : W p l e room_1 s m #[Value.ref b] below meth c H locs (26 + 40 * k) (19095 + 2000 * k) (lw_Z below #[Value.ref b] s) (F0 m 340 ls []) := by
  obtain ⟨hst, C0, hL, hE, hN⟩ := id hc
  obtain ⟨hx, hb, hr, hml, hown, hts, hX, hbl, hlocks, hgv⟩ := id C0
  have ht : ∀ w ∈ TW, w.before #[Value.ref b] s = true := fun w h => hts w (List.mem_filter.mp h).1
  have hK := hE.1
  obtain ⟨V, E, K, inp, w, d, wV, wC, hR, hO, hM⟩ := hJ
  obtain ⟨wa0, da0, ho0⟩ := CCs.o hR
  refine lv_aload_n hx hb d_L_law_340 rfl (lv_at hl 2 rfl) ?_
  refine lv_aload_n hx hb d_L_law_341 rfl (lv_at hl 4 rfl) ?_
  refine x_callC hI (vx_runSW (As := [.ref o, .ref out]) (rest := []) ⟨hx, hb, hml, hown, ht⟩ (w_solve l G (va_A wc H.size) wc hst o z u lv le lk V E K inp w d wV wC hR hO out f) (vx_cwSW 2 ht (TW_S k_ml_L_81 k_st_L_solve k_in_L k_code_L_solve) rfl rfl rfl hv_L_solve.2 ⟨Nat.le_of_ble_eq_true rfl, Nat.le_of_ble_eq_true rfl⟩) ⟨wP_blind, w_pre hE hN hS hI⟩ rfl rfl hl.1 rfl (lv_room (Nat.le_of_ble_eq_true rfl)) d_L_law_342 ⟨by show 26 + 40 * k + 40 ≤ 601024; omega, by show 19095 + 2000 * k + 2000 ≤ 7293034; omega⟩) hS (fun r5 u9 H locs hw hI hS => ?_)
  refine W.widen (k := 26 + 40 * (k + 1)) (n := 19095 + 2000 * (k + 1)) (by omega) (by omega) ?_
  refine lv_istore (lv' := [(5, .int r5), (4, .int (nI (5 * k))), (0, .ref b), (1, .ref o), (2, .ref a.m), (3, .ref out)]) hx hb d_L_law_345 hl (by decide) rfl (fun ls hl => ?_)
  refine lv_aload_n hx hb d_L_law_347 rfl (lv_at hl 4 rfl) ?_
  refine x_callM hI (va_runV (As := []) (rest := []) ⟨hx, hb, hml, hown, ht⟩ (m_solve l G (va_A (mW G a st) H.size) (mW G a st) a st rfl V E K inp w wV wC hM hO d) (cwV 0 ht (TW_V k_ml_L_84 k_im_M_solve k_se_M_solve k_in_M k_code_M_solve) rfl rfl rfl hv_M_solve ⟨Nat.le_of_ble_eq_true rfl, Nat.le_of_ble_eq_true rfl⟩) ⟨x_blind, va_recv hK hI.2.1 (ci := 5) rfl (q0 := 0) rfl, m_pre hE hS hI⟩ rfl rfl hl.1 rfl (lv_room (Nat.le_of_ble_eq_true rfl)) d_L_law_348 ⟨by show 26 + 40 * (k + 1) + 0 ≤ 601024; omega, by show 19095 + 2000 * (k + 1) + 0 ≤ 7293034; omega⟩) hS (fun r6 w9 H locs hm hI hS => ?_)
  refine W.widen (k := 26 + 40 * (k + 1)) (n := 19095 + 2000 * (k + 1)) (by omega) (by omega) ?_
  obtain ⟨st', rfl, hm⟩ := hm
  obtain ⟨hJ, e5, t2, hout⟩ := J_solve hO hw hm
  refine lv_istore (lv' := [(6, .int r6), (5, .int r5), (4, .int (nI (5 * k))), (0, .ref b), (1, .ref o), (2, .ref a.m), (3, .ref out)]) hx hb d_L_law_351 hl (by decide) rfl (fun ls hl => ?_)
  refine lv_aload_n hx hb d_L_law_353 rfl (lv_at hl 5 rfl) ?_
  refine x_callM hI (va_runV (As := []) (rest := []) ⟨hx, hb, hml, hown, ht⟩ (c_M_thrown l G (va_A (mW G a st') H.size) (mW G a st') a st' rfl) (cwV 0 ht (TW_V k_ml_L_70 k_im_M_thrown k_se_M_thrown k_in_M k_code_M_thrown) rfl rfl rfl hv_M_thrown ⟨Nat.le_of_ble_eq_true rfl, Nat.le_of_ble_eq_true rfl⟩) ⟨x_blind, va_recv hK hI.2.1 (ci := 5) rfl (q0 := 0) rfl, m_pre hE hS hI⟩ rfl rfl hl.1 rfl (lv_room (Nat.le_of_ble_eq_true rfl)) d_L_law_354 ⟨by show 26 + 40 * (k + 1) + 0 ≤ 601024; omega, by show 19095 + 2000 * (k + 1) + 0 ≤ 7293034; omega⟩) hS (fun rT w9 H locs hq hI hS => ?_)
  refine W.widen (k := 26 + 40 * (k + 1)) (n := 19095 + 2000 * (k + 1)) (by omega) (by omega) ?_
  obtain ⟨rfl, rfl⟩ := hq
  refine lv_iload hx hb d_L_law_357 (lv_at hl 1 rfl) ?_
  refine x_eq hx hb st'.th st'.th rfl e5 (by omega) (by omega) (tgt := 364) d_L_law_359 (by decide) (fun _ => ?_) (fun q => absurd rfl q)
  refine lv_iload hx hb d_L_law_364 (lv_at hl 1 rfl) ?_
  refine x_if_ne hx hb st'.th e5 (by omega) (tgt := 381) d_L_law_366 (by decide) (fun _ => ?_) (fun q0 => ?_)
  · refine lv_goto (tgt := 844) hx hb d_L_law_381 (by decide) ?_
    exact next st' u9.1 u9.2 H locs ls hI hJ hS (lv_sub hl [2, 3, 4, 5, 6] rfl)
  · refine lv_aload_n hx hb d_L_law_369 rfl (lv_at hl 6 rfl) ?_
    refine lv_iconst (v := (nI 0)) hx hb d_L_law_370 (by decide) ?_
    refine va_lald hx hb hK hI.2.2.1 0 1 rfl rfl (vp_in_nI (by decide) (by decide)) d_L_law_371 ?_
    refine lv_iload hx hb d_L_law_372 (lv_at hl 0 rfl) ?_
    refine lv_i2l (v := r6.toInt64) hx hb d_L_law_374 rfl ?_
    refine W.lcmp hx hb d_L_law_375 ?_
    refine x_top (nI 0) (by rw [nI_clamp (by decide), hout q0]; exact lg_self _) ?_
    refine x_if_eq hx hb 0 rfl (by decide) (tgt := 381) d_L_law_376 (by decide) (fun _ => ?_) (fun q => absurd rfl q)
    refine lv_goto (tgt := 844) hx hb d_L_law_381 (by decide) ?_
    exact next st' u9.1 u9.2 H locs ls hI hJ hS (lv_sub hl [2, 3, 4, 5, 6] rfl)

set_option maxHeartbeats 4000000 in
set_option maxRecDepth 100000 in
theorem law_value {p : Program} {l : Launch} {e : Env} {s : State} {m : MethodId} {below : List Frame} {meth : Method} {c : Code} {b L : Nat} {xs : Nat → Int32} {G : xG} (hc : lawC l p s m meth c b L xs G) {k : Nat} (hk : 5 * k + 5 ≤ L) {o z u lv le lk : Nat} {a : MA} {st : MS} {wc : va_W} {out : Nat} {f : Nat → Int64} {H : Heap} {locs : List Loc} {ls : Array Slot} (hI : LI G s.heap.size H wc (mW G a st) out f) (hJ : Jst G o z u lv le lk wc st) (hS : va_S (fun q => s.heap.size ≤ q) s.heap H locs) (hl : lv_has ls 7 [(4, .int (nI (5 * k))), (0, .ref b), (1, .ref o), (2, .ref a.m), (3, .ref out)]) (next : ∀ (st2 : MS) (wc2 : va_W) (f2 : Nat → Int64) (H2 : Heap) (locs2 : List Loc) (ls2 : Array Slot), LI G s.heap.size H2 wc2 (mW G a st2) out f2 → Jst G o z u lv le lk wc2 st2 → va_S (fun q => s.heap.size ≤ q) s.heap H2 locs2 → lv_has ls2 7 [(4, .int (nI (5 * k))), (0, .ref b), (1, .ref o), (2, .ref a.m), (3, .ref out)] → W p l e room_1 s m #[Value.ref b] below meth c H2 locs2 (26 + 40 * (k + 1)) (19095 + 2000 * (k + 1)) (lw_Z below #[Value.ref b] s) (F0 m 844 ls2 [])) : W p l e room_1 s m #[Value.ref b] below meth c H locs (26 + 40 * k) (19095 + 2000 * k) (lw_Z below #[Value.ref b] s) (F0 m 384 ls []) := by
  obtain ⟨hst, C0, hL, hE, hN⟩ := id hc
  obtain ⟨hx, hb, hr, hml, hown, hts, hX, hbl, hlocks, hgv⟩ := id C0
  have ht : ∀ w ∈ TW, w.before #[Value.ref b] s = true := fun w h => hts w (List.mem_filter.mp h).1
  have hK := hE.1
  obtain ⟨V, E, K, inp, w, d, wV, wC, hR, hO, hM⟩ := hJ
  obtain ⟨wa0, da0, ho0⟩ := CCs.o hR
  refine lv_aload_n hx hb d_L_law_384 rfl (lv_at hl 2 rfl) ?_
  refine lv_aload_n hx hb d_L_law_385 rfl (lv_at hl 1 rfl) ?_
  refine lv_iload hx hb d_L_law_386 (lv_at hl 0 rfl) ?_
  refine lv_iconst (v := (nI 1)) hx hb d_L_law_388 (by decide) ?_
  refine lv_iadd hx hb d_L_law_389 ?_
  refine x_top (nI ((5 * k) + 1)) (nI_add _ _) ?_
  refine x_sld hx hb hX hbl hS (5 * k + 1) (by omega) hL d_L_law_390 ?_
  refine lv_aload_n hx hb d_L_law_391 rfl (lv_at hl 4 rfl) ?_
  refine x_callC hI (vx_runSW (As := [.ref o, .int (xs (5 * k + 1)), .ref out]) (rest := []) ⟨hx, hb, hml, hown, ht⟩ (w_value l G (va_A wc H.size) wc hst o z u lv le lk V E K inp w d wV wC hR hO (xs (5 * k + 1)) out f) (vx_cwSW 3 ht (TW_S k_ml_L_85 k_st_L_value k_in_L k_code_L_value) rfl rfl rfl hv_L_value.2 ⟨Nat.le_of_ble_eq_true rfl, Nat.le_of_ble_eq_true rfl⟩) ⟨wP_blind, w_pre hE hN hS hI⟩ rfl rfl hl.1 rfl (lv_room (Nat.le_of_ble_eq_true rfl)) d_L_law_392 ⟨by show 26 + 40 * k + 40 ≤ 601024; omega, by show 19095 + 2000 * k + 2000 ≤ 7293034; omega⟩) hS (fun r5 u9 H locs hw hI hS => ?_)
  refine W.widen (k := 26 + 40 * (k + 1)) (n := 19095 + 2000 * (k + 1)) (by omega) (by omega) ?_
  refine lv_istore (lv' := [(5, .int r5), (4, .int (nI (5 * k))), (0, .ref b), (1, .ref o), (2, .ref a.m), (3, .ref out)]) hx hb d_L_law_395 hl (by decide) rfl (fun ls hl => ?_)
  refine lv_aload_n hx hb d_L_law_397 rfl (lv_at hl 4 rfl) ?_
  refine lv_aload_n hx hb d_L_law_398 rfl (lv_at hl 2 rfl) ?_
  refine lv_iload hx hb d_L_law_399 (lv_at hl 1 rfl) ?_
  refine lv_iconst (v := (nI 1)) hx hb d_L_law_401 (by decide) ?_
  refine lv_iadd hx hb d_L_law_402 ?_
  refine x_top (nI ((5 * k) + 1)) (nI_add _ _) ?_
  refine x_sld hx hb hX hbl hS (5 * k + 1) (by omega) hL d_L_law_403 ?_
  refine x_callM hI (va_runV (As := [.int (xs (5 * k + 1))]) (rest := []) ⟨hx, hb, hml, hown, ht⟩ (m_value l G (va_A (mW G a st) H.size) (mW G a st) a st rfl V E K inp w wV wC hM hO (xs (5 * k + 1))) (cwV 1 ht (TW_V k_ml_L_88 k_im_M_value k_se_M_value k_in_M k_code_M_value) rfl rfl rfl hv_M_value ⟨Nat.le_of_ble_eq_true rfl, Nat.le_of_ble_eq_true rfl⟩) ⟨x_blind, va_recv hK hI.2.1 (ci := 5) rfl (q0 := 0) rfl, m_pre hE hS hI⟩ rfl rfl hl.1 rfl (lv_room (Nat.le_of_ble_eq_true rfl)) d_L_law_404 ⟨by show 26 + 40 * (k + 1) + 0 ≤ 601024; omega, by show 19095 + 2000 * (k + 1) + 0 ≤ 7293034; omega⟩) hS (fun r6 w9 H locs hm hI hS => ?_)
  refine W.widen (k := 26 + 40 * (k + 1)) (n := 19095 + 2000 * (k + 1)) (by omega) (by omega) ?_
  obtain ⟨st', rfl, hm⟩ := hm
  obtain ⟨hJ, e5, t2, hout⟩ := J_value hO hw hm
  refine lv_istore (lv' := [(6, .int r6), (5, .int r5), (4, .int (nI (5 * k))), (0, .ref b), (1, .ref o), (2, .ref a.m), (3, .ref out)]) hx hb d_L_law_407 hl (by decide) rfl (fun ls hl => ?_)
  refine lv_aload_n hx hb d_L_law_409 rfl (lv_at hl 5 rfl) ?_
  refine x_callM hI (va_runV (As := []) (rest := []) ⟨hx, hb, hml, hown, ht⟩ (c_M_thrown l G (va_A (mW G a st') H.size) (mW G a st') a st' rfl) (cwV 0 ht (TW_V k_ml_L_70 k_im_M_thrown k_se_M_thrown k_in_M k_code_M_thrown) rfl rfl rfl hv_M_thrown ⟨Nat.le_of_ble_eq_true rfl, Nat.le_of_ble_eq_true rfl⟩) ⟨x_blind, va_recv hK hI.2.1 (ci := 5) rfl (q0 := 0) rfl, m_pre hE hS hI⟩ rfl rfl hl.1 rfl (lv_room (Nat.le_of_ble_eq_true rfl)) d_L_law_410 ⟨by show 26 + 40 * (k + 1) + 0 ≤ 601024; omega, by show 19095 + 2000 * (k + 1) + 0 ≤ 7293034; omega⟩) hS (fun rT w9 H locs hq hI hS => ?_)
  refine W.widen (k := 26 + 40 * (k + 1)) (n := 19095 + 2000 * (k + 1)) (by omega) (by omega) ?_
  obtain ⟨rfl, rfl⟩ := hq
  refine lv_iload hx hb d_L_law_413 (lv_at hl 1 rfl) ?_
  refine x_eq hx hb st'.th st'.th rfl e5 (by omega) (by omega) (tgt := 420) d_L_law_415 (by decide) (fun _ => ?_) (fun q => absurd rfl q)
  refine lv_iload hx hb d_L_law_420 (lv_at hl 1 rfl) ?_
  refine x_if_ne hx hb st'.th e5 (by omega) (tgt := 437) d_L_law_422 (by decide) (fun _ => ?_) (fun q0 => ?_)
  · refine lv_goto (tgt := 844) hx hb d_L_law_437 (by decide) ?_
    exact next st' u9.1 u9.2 H locs ls hI hJ hS (lv_sub hl [2, 3, 4, 5, 6] rfl)
  · refine lv_aload_n hx hb d_L_law_425 rfl (lv_at hl 6 rfl) ?_
    refine lv_iconst (v := (nI 0)) hx hb d_L_law_426 (by decide) ?_
    refine va_lald hx hb hK hI.2.2.1 0 1 rfl rfl (vp_in_nI (by decide) (by decide)) d_L_law_427 ?_
    refine lv_iload hx hb d_L_law_428 (lv_at hl 0 rfl) ?_
    refine lv_i2l (v := r6.toInt64) hx hb d_L_law_430 rfl ?_
    refine W.lcmp hx hb d_L_law_431 ?_
    refine x_top (nI 0) (by rw [nI_clamp (by decide), hout q0]; exact lg_self _) ?_
    refine x_if_eq hx hb 0 rfl (by decide) (tgt := 437) d_L_law_432 (by decide) (fun _ => ?_) (fun q => absurd rfl q)
    refine lv_goto (tgt := 844) hx hb d_L_law_437 (by decide) ?_
    exact next st' u9.1 u9.2 H locs ls hI hJ hS (lv_sub hl [2, 3, 4, 5, 6] rfl)

set_option maxHeartbeats 4000000 in
set_option maxRecDepth 100000 in
theorem law_tamper {p : Program} {l : Launch} {e : Env} {s : State} {m : MethodId} {below : List Frame} {meth : Method} {c : Code} {b L : Nat} {xs : Nat → Int32} {G : xG} (hc : lawC l p s m meth c b L xs G) {k : Nat} (hk : 5 * k + 5 ≤ L) {o z u lv le lk : Nat} {a : MA} {st : MS} {wc : va_W} {out : Nat} {f : Nat → Int64} {H : Heap} {locs : List Loc} {ls : Array Slot} (hI : LI G s.heap.size H wc (mW G a st) out f) (hJ : Jst G o z u lv le lk wc st) (hS : va_S (fun q => s.heap.size ≤ q) s.heap H locs) (hl : lv_has ls 7 [(4, .int (nI (5 * k))), (0, .ref b), (1, .ref o), (2, .ref a.m), (3, .ref out)]) (next : ∀ (st2 : MS) (wc2 : va_W) (f2 : Nat → Int64) (H2 : Heap) (locs2 : List Loc) (ls2 : Array Slot), LI G s.heap.size H2 wc2 (mW G a st2) out f2 → Jst G o z u lv le lk wc2 st2 → va_S (fun q => s.heap.size ≤ q) s.heap H2 locs2 → lv_has ls2 7 [(4, .int (nI (5 * k))), (0, .ref b), (1, .ref o), (2, .ref a.m), (3, .ref out)] → W p l e room_1 s m #[Value.ref b] below meth c H2 locs2 (26 + 40 * (k + 1)) (19095 + 2000 * (k + 1)) (lw_Z below #[Value.ref b] s) (F0 m 844 ls2 [])) : W p l e room_1 s m #[Value.ref b] below meth c H locs (26 + 40 * k) (19095 + 2000 * k) (lw_Z below #[Value.ref b] s) (F0 m 440 ls []) := by
  obtain ⟨hst, C0, hL, hE, hN⟩ := id hc
  obtain ⟨hx, hb, hr, hml, hown, hts, hX, hbl, hlocks, hgv⟩ := id C0
  have ht : ∀ w ∈ TW, w.before #[Value.ref b] s = true := fun w h => hts w (List.mem_filter.mp h).1
  have hK := hE.1
  obtain ⟨V, E, K, inp, w, d, wV, wC, hR, hO, hM⟩ := hJ
  obtain ⟨wa0, da0, ho0⟩ := CCs.o hR
  refine lv_aload_n hx hb d_L_law_440 rfl (lv_at hl 2 rfl) ?_
  refine lv_aload_n hx hb d_L_law_441 rfl (lv_at hl 1 rfl) ?_
  refine lv_iload hx hb d_L_law_442 (lv_at hl 0 rfl) ?_
  refine lv_iconst (v := (nI 1)) hx hb d_L_law_444 (by decide) ?_
  refine lv_iadd hx hb d_L_law_445 ?_
  refine x_top (nI ((5 * k) + 1)) (nI_add _ _) ?_
  refine x_sld hx hb hX hbl hS (5 * k + 1) (by omega) hL d_L_law_446 ?_
  refine lv_aload_n hx hb d_L_law_447 rfl (lv_at hl 1 rfl) ?_
  refine lv_iload hx hb d_L_law_448 (lv_at hl 0 rfl) ?_
  refine lv_iconst (v := (nI 2)) hx hb d_L_law_450 (by decide) ?_
  refine lv_iadd hx hb d_L_law_451 ?_
  refine x_top (nI ((5 * k) + 2)) (nI_add _ _) ?_
  refine x_sld hx hb hX hbl hS (5 * k + 2) (by omega) hL d_L_law_452 ?_
  refine lv_aload_n hx hb d_L_law_453 rfl (lv_at hl 4 rfl) ?_
  refine x_callC hI (vx_runSW (As := [.ref o, .int (xs (5 * k + 1)), .int (xs (5 * k + 2)), .ref out]) (rest := []) ⟨hx, hb, hml, hown, ht⟩ (w_tamper l G (va_A wc H.size) wc hst o z u lv le lk V E K inp w d wV wC hR hO (xs (5 * k + 1)) (xs (5 * k + 2)) out f) (vx_cwSW 4 ht (TW_S k_ml_L_89 k_st_L_tamper k_in_L k_code_L_tamper) rfl rfl rfl hv_L_tamper.2 ⟨Nat.le_of_ble_eq_true rfl, Nat.le_of_ble_eq_true rfl⟩) ⟨wP_blind, w_pre hE hN hS hI⟩ rfl rfl hl.1 rfl (lv_room (Nat.le_of_ble_eq_true rfl)) d_L_law_454 ⟨by show 26 + 40 * k + 40 ≤ 601024; omega, by show 19095 + 2000 * k + 2000 ≤ 7293034; omega⟩) hS (fun r5 u9 H locs hw hI hS => ?_)
  refine W.widen (k := 26 + 40 * (k + 1)) (n := 19095 + 2000 * (k + 1)) (by omega) (by omega) ?_
  refine lv_istore (lv' := [(5, .int r5), (4, .int (nI (5 * k))), (0, .ref b), (1, .ref o), (2, .ref a.m), (3, .ref out)]) hx hb d_L_law_457 hl (by decide) rfl (fun ls hl => ?_)
  refine lv_aload_n hx hb d_L_law_459 rfl (lv_at hl 4 rfl) ?_
  refine lv_aload_n hx hb d_L_law_460 rfl (lv_at hl 2 rfl) ?_
  refine lv_iload hx hb d_L_law_461 (lv_at hl 1 rfl) ?_
  refine lv_iconst (v := (nI 1)) hx hb d_L_law_463 (by decide) ?_
  refine lv_iadd hx hb d_L_law_464 ?_
  refine x_top (nI ((5 * k) + 1)) (nI_add _ _) ?_
  refine x_sld hx hb hX hbl hS (5 * k + 1) (by omega) hL d_L_law_465 ?_
  refine lv_aload_n hx hb d_L_law_466 rfl (lv_at hl 2 rfl) ?_
  refine lv_iload hx hb d_L_law_467 (lv_at hl 1 rfl) ?_
  refine lv_iconst (v := (nI 2)) hx hb d_L_law_469 (by decide) ?_
  refine lv_iadd hx hb d_L_law_470 ?_
  refine x_top (nI ((5 * k) + 2)) (nI_add _ _) ?_
  refine x_sld hx hb hX hbl hS (5 * k + 2) (by omega) hL d_L_law_471 ?_
  refine x_callM hI (va_runV (As := [.int (xs (5 * k + 1)), .int (xs (5 * k + 2))]) (rest := []) ⟨hx, hb, hml, hown, ht⟩ (m_tamper l G (va_A (mW G a st) H.size) (mW G a st) a st rfl V E K inp w wV wC hM hO (xs (5 * k + 1)) (xs (5 * k + 2))) (cwV 2 ht (TW_V k_ml_L_91 k_im_M_tamper k_se_M_tamper k_in_M k_code_M_tamper) rfl rfl rfl hv_M_tamper ⟨Nat.le_of_ble_eq_true rfl, Nat.le_of_ble_eq_true rfl⟩) ⟨x_blind, va_recv hK hI.2.1 (ci := 5) rfl (q0 := 0) rfl, m_pre hE hS hI⟩ rfl rfl hl.1 rfl (lv_room (Nat.le_of_ble_eq_true rfl)) d_L_law_472 ⟨by show 26 + 40 * (k + 1) + 0 ≤ 601024; omega, by show 19095 + 2000 * (k + 1) + 0 ≤ 7293034; omega⟩) hS (fun r6 w9 H locs hm hI hS => ?_)
  refine W.widen (k := 26 + 40 * (k + 1)) (n := 19095 + 2000 * (k + 1)) (by omega) (by omega) ?_
  obtain ⟨st', rfl, hm⟩ := hm
  obtain ⟨hJ, e5, t2, hout⟩ := J_tamper hO hw hm
  refine lv_istore (lv' := [(6, .int r6), (5, .int r5), (4, .int (nI (5 * k))), (0, .ref b), (1, .ref o), (2, .ref a.m), (3, .ref out)]) hx hb d_L_law_475 hl (by decide) rfl (fun ls hl => ?_)
  refine lv_aload_n hx hb d_L_law_477 rfl (lv_at hl 5 rfl) ?_
  refine x_callM hI (va_runV (As := []) (rest := []) ⟨hx, hb, hml, hown, ht⟩ (c_M_thrown l G (va_A (mW G a st') H.size) (mW G a st') a st' rfl) (cwV 0 ht (TW_V k_ml_L_70 k_im_M_thrown k_se_M_thrown k_in_M k_code_M_thrown) rfl rfl rfl hv_M_thrown ⟨Nat.le_of_ble_eq_true rfl, Nat.le_of_ble_eq_true rfl⟩) ⟨x_blind, va_recv hK hI.2.1 (ci := 5) rfl (q0 := 0) rfl, m_pre hE hS hI⟩ rfl rfl hl.1 rfl (lv_room (Nat.le_of_ble_eq_true rfl)) d_L_law_478 ⟨by show 26 + 40 * (k + 1) + 0 ≤ 601024; omega, by show 19095 + 2000 * (k + 1) + 0 ≤ 7293034; omega⟩) hS (fun rT w9 H locs hq hI hS => ?_)
  refine W.widen (k := 26 + 40 * (k + 1)) (n := 19095 + 2000 * (k + 1)) (by omega) (by omega) ?_
  obtain ⟨rfl, rfl⟩ := hq
  refine lv_iload hx hb d_L_law_481 (lv_at hl 1 rfl) ?_
  refine x_eq hx hb st'.th st'.th rfl e5 (by omega) (by omega) (tgt := 488) d_L_law_483 (by decide) (fun _ => ?_) (fun q => absurd rfl q)
  refine lv_iload hx hb d_L_law_488 (lv_at hl 1 rfl) ?_
  refine x_if_ne hx hb st'.th e5 (by omega) (tgt := 505) d_L_law_490 (by decide) (fun _ => ?_) (fun q0 => ?_)
  · refine lv_goto (tgt := 844) hx hb d_L_law_505 (by decide) ?_
    exact next st' u9.1 u9.2 H locs ls hI hJ hS (lv_sub hl [2, 3, 4, 5, 6] rfl)
  · refine lv_aload_n hx hb d_L_law_493 rfl (lv_at hl 6 rfl) ?_
    refine lv_iconst (v := (nI 0)) hx hb d_L_law_494 (by decide) ?_
    refine va_lald hx hb hK hI.2.2.1 0 1 rfl rfl (vp_in_nI (by decide) (by decide)) d_L_law_495 ?_
    refine lv_iload hx hb d_L_law_496 (lv_at hl 0 rfl) ?_
    refine lv_i2l (v := r6.toInt64) hx hb d_L_law_498 rfl ?_
    refine W.lcmp hx hb d_L_law_499 ?_
    refine x_top (nI 0) (by rw [nI_clamp (by decide), hout q0]; exact lg_self _) ?_
    refine x_if_eq hx hb 0 rfl (by decide) (tgt := 505) d_L_law_500 (by decide) (fun _ => ?_) (fun q => absurd rfl q)
    refine lv_goto (tgt := 844) hx hb d_L_law_505 (by decide) ?_
    exact next st' u9.1 u9.2 H locs ls hI hJ hS (lv_sub hl [2, 3, 4, 5, 6] rfl)

set_option maxHeartbeats 4000000 in
set_option maxRecDepth 100000 in
theorem law_broken {p : Program} {l : Launch} {e : Env} {s : State} {m : MethodId} {below : List Frame} {meth : Method} {c : Code} {b L : Nat} {xs : Nat → Int32} {G : xG} (hc : lawC l p s m meth c b L xs G) {k : Nat} (hk : 5 * k + 5 ≤ L) {o z u lv le lk : Nat} {a : MA} {st : MS} {wc : va_W} {out : Nat} {f : Nat → Int64} {H : Heap} {locs : List Loc} {ls : Array Slot} (hI : LI G s.heap.size H wc (mW G a st) out f) (hJ : Jst G o z u lv le lk wc st) (hS : va_S (fun q => s.heap.size ≤ q) s.heap H locs) (hl : lv_has ls 7 [(4, .int (nI (5 * k))), (0, .ref b), (1, .ref o), (2, .ref a.m), (3, .ref out)]) (next : ∀ (st2 : MS) (wc2 : va_W) (f2 : Nat → Int64) (H2 : Heap) (locs2 : List Loc) (ls2 : Array Slot), LI G s.heap.size H2 wc2 (mW G a st2) out f2 → Jst G o z u lv le lk wc2 st2 → va_S (fun q => s.heap.size ≤ q) s.heap H2 locs2 → lv_has ls2 7 [(4, .int (nI (5 * k))), (0, .ref b), (1, .ref o), (2, .ref a.m), (3, .ref out)] → W p l e room_1 s m #[Value.ref b] below meth c H2 locs2 (26 + 40 * (k + 1)) (19095 + 2000 * (k + 1)) (lw_Z below #[Value.ref b] s) (F0 m 844 ls2 [])) : W p l e room_1 s m #[Value.ref b] below meth c H locs (26 + 40 * k) (19095 + 2000 * k) (lw_Z below #[Value.ref b] s) (F0 m 508 ls []) := by
  obtain ⟨hst, C0, hL, hE, hN⟩ := id hc
  obtain ⟨hx, hb, hr, hml, hown, hts, hX, hbl, hlocks, hgv⟩ := id C0
  have ht : ∀ w ∈ TW, w.before #[Value.ref b] s = true := fun w h => hts w (List.mem_filter.mp h).1
  have hK := hE.1
  obtain ⟨V, E, K, inp, w, d, wV, wC, hR, hO, hM⟩ := hJ
  obtain ⟨wa0, da0, ho0⟩ := CCs.o hR
  refine lv_aload_n hx hb d_L_law_508 rfl (lv_at hl 2 rfl) ?_
  refine lv_aload_n hx hb d_L_law_509 rfl (lv_at hl 4 rfl) ?_
  refine x_callC hI (vx_runSW (As := [.ref o, .ref out]) (rest := []) ⟨hx, hb, hml, hown, ht⟩ (w_broken l G (va_A wc H.size) wc hst o z u lv le lk V E K inp w d wV wC hR hO out f) (vx_cwSW 2 ht (TW_S k_ml_L_92 k_st_L_broken k_in_L k_code_L_broken) rfl rfl rfl hv_L_broken.2 ⟨Nat.le_of_ble_eq_true rfl, Nat.le_of_ble_eq_true rfl⟩) ⟨wP_blind, w_pre hE hN hS hI⟩ rfl rfl hl.1 rfl (lv_room (Nat.le_of_ble_eq_true rfl)) d_L_law_510 ⟨by show 26 + 40 * k + 40 ≤ 601024; omega, by show 19095 + 2000 * k + 2000 ≤ 7293034; omega⟩) hS (fun r5 u9 H locs hw hI hS => ?_)
  refine W.widen (k := 26 + 40 * (k + 1)) (n := 19095 + 2000 * (k + 1)) (by omega) (by omega) ?_
  refine lv_istore (lv' := [(5, .int r5), (4, .int (nI (5 * k))), (0, .ref b), (1, .ref o), (2, .ref a.m), (3, .ref out)]) hx hb d_L_law_513 hl (by decide) rfl (fun ls hl => ?_)
  refine lv_aload_n hx hb d_L_law_515 rfl (lv_at hl 4 rfl) ?_
  refine x_callM hI (va_runV (As := []) (rest := []) ⟨hx, hb, hml, hown, ht⟩ (m_broken l G (va_A (mW G a st) H.size) (mW G a st) a st rfl V E K inp w wV wC hM hO) (cwV 0 ht (TW_V k_ml_L_94 k_im_M_broken k_se_M_broken k_in_M k_code_M_broken) rfl rfl rfl hv_M_broken ⟨Nat.le_of_ble_eq_true rfl, Nat.le_of_ble_eq_true rfl⟩) ⟨x_blind, va_recv hK hI.2.1 (ci := 5) rfl (q0 := 0) rfl, m_pre hE hS hI⟩ rfl rfl hl.1 rfl (lv_room (Nat.le_of_ble_eq_true rfl)) d_L_law_516 ⟨by show 26 + 40 * (k + 1) + 0 ≤ 601024; omega, by show 19095 + 2000 * (k + 1) + 0 ≤ 7293034; omega⟩) hS (fun r6 w9 H locs hm hI hS => ?_)
  refine W.widen (k := 26 + 40 * (k + 1)) (n := 19095 + 2000 * (k + 1)) (by omega) (by omega) ?_
  obtain ⟨st', rfl, hm⟩ := hm
  obtain ⟨hJ, e5, t2, hout⟩ := J_broken hO hw hm
  refine lv_istore (lv' := [(6, .int r6), (5, .int r5), (4, .int (nI (5 * k))), (0, .ref b), (1, .ref o), (2, .ref a.m), (3, .ref out)]) hx hb d_L_law_519 hl (by decide) rfl (fun ls hl => ?_)
  refine lv_aload_n hx hb d_L_law_521 rfl (lv_at hl 5 rfl) ?_
  refine x_callM hI (va_runV (As := []) (rest := []) ⟨hx, hb, hml, hown, ht⟩ (c_M_thrown l G (va_A (mW G a st') H.size) (mW G a st') a st' rfl) (cwV 0 ht (TW_V k_ml_L_70 k_im_M_thrown k_se_M_thrown k_in_M k_code_M_thrown) rfl rfl rfl hv_M_thrown ⟨Nat.le_of_ble_eq_true rfl, Nat.le_of_ble_eq_true rfl⟩) ⟨x_blind, va_recv hK hI.2.1 (ci := 5) rfl (q0 := 0) rfl, m_pre hE hS hI⟩ rfl rfl hl.1 rfl (lv_room (Nat.le_of_ble_eq_true rfl)) d_L_law_522 ⟨by show 26 + 40 * (k + 1) + 0 ≤ 601024; omega, by show 19095 + 2000 * (k + 1) + 0 ≤ 7293034; omega⟩) hS (fun rT w9 H locs hq hI hS => ?_)
  refine W.widen (k := 26 + 40 * (k + 1)) (n := 19095 + 2000 * (k + 1)) (by omega) (by omega) ?_
  obtain ⟨rfl, rfl⟩ := hq
  refine lv_iload hx hb d_L_law_525 (lv_at hl 1 rfl) ?_
  refine x_eq hx hb st'.th st'.th rfl e5 (by omega) (by omega) (tgt := 532) d_L_law_527 (by decide) (fun _ => ?_) (fun q => absurd rfl q)
  refine lv_iload hx hb d_L_law_532 (lv_at hl 1 rfl) ?_
  refine x_if_ne hx hb st'.th e5 (by omega) (tgt := 549) d_L_law_534 (by decide) (fun _ => ?_) (fun q0 => ?_)
  · refine lv_goto (tgt := 844) hx hb d_L_law_549 (by decide) ?_
    exact next st' u9.1 u9.2 H locs ls hI hJ hS (lv_sub hl [2, 3, 4, 5, 6] rfl)
  · refine lv_aload_n hx hb d_L_law_537 rfl (lv_at hl 6 rfl) ?_
    refine lv_iconst (v := (nI 0)) hx hb d_L_law_538 (by decide) ?_
    refine va_lald hx hb hK hI.2.2.1 0 1 rfl rfl (vp_in_nI (by decide) (by decide)) d_L_law_539 ?_
    refine lv_iload hx hb d_L_law_540 (lv_at hl 0 rfl) ?_
    refine lv_i2l (v := r6.toInt64) hx hb d_L_law_542 rfl ?_
    refine W.lcmp hx hb d_L_law_543 ?_
    refine x_top (nI 0) (by rw [nI_clamp (by decide), hout q0]; exact lg_self _) ?_
    refine x_if_eq hx hb 0 rfl (by decide) (tgt := 549) d_L_law_544 (by decide) (fun _ => ?_) (fun q => absurd rfl q)
    refine lv_goto (tgt := 844) hx hb d_L_law_549 (by decide) ?_
    exact next st' u9.1 u9.2 H locs ls hI hJ hS (lv_sub hl [2, 3, 4, 5, 6] rfl)

set_option maxHeartbeats 4000000 in
set_option maxRecDepth 100000 in
theorem law_first {p : Program} {l : Launch} {e : Env} {s : State} {m : MethodId} {below : List Frame} {meth : Method} {c : Code} {b L : Nat} {xs : Nat → Int32} {G : xG} (hc : lawC l p s m meth c b L xs G) {k : Nat} (hk : 5 * k + 5 ≤ L) {o z u lv le lk : Nat} {a : MA} {st : MS} {wc : va_W} {out : Nat} {f : Nat → Int64} {H : Heap} {locs : List Loc} {ls : Array Slot} (hI : LI G s.heap.size H wc (mW G a st) out f) (hJ : Jst G o z u lv le lk wc st) (hS : va_S (fun q => s.heap.size ≤ q) s.heap H locs) (hl : lv_has ls 7 [(4, .int (nI (5 * k))), (0, .ref b), (1, .ref o), (2, .ref a.m), (3, .ref out)]) (next : ∀ (st2 : MS) (wc2 : va_W) (f2 : Nat → Int64) (H2 : Heap) (locs2 : List Loc) (ls2 : Array Slot), LI G s.heap.size H2 wc2 (mW G a st2) out f2 → Jst G o z u lv le lk wc2 st2 → va_S (fun q => s.heap.size ≤ q) s.heap H2 locs2 → lv_has ls2 7 [(4, .int (nI (5 * k))), (0, .ref b), (1, .ref o), (2, .ref a.m), (3, .ref out)] → W p l e room_1 s m #[Value.ref b] below meth c H2 locs2 (26 + 40 * (k + 1)) (19095 + 2000 * (k + 1)) (lw_Z below #[Value.ref b] s) (F0 m 844 ls2 [])) : W p l e room_1 s m #[Value.ref b] below meth c H locs (26 + 40 * k) (19095 + 2000 * k) (lw_Z below #[Value.ref b] s) (F0 m 552 ls []) := by
  obtain ⟨hst, C0, hL, hE, hN⟩ := id hc
  obtain ⟨hx, hb, hr, hml, hown, hts, hX, hbl, hlocks, hgv⟩ := id C0
  have ht : ∀ w ∈ TW, w.before #[Value.ref b] s = true := fun w h => hts w (List.mem_filter.mp h).1
  have hK := hE.1
  obtain ⟨V, E, K, inp, w, d, wV, wC, hR, hO, hM⟩ := hJ
  obtain ⟨wa0, da0, ho0⟩ := CCs.o hR
  refine lv_aload_n hx hb d_L_law_552 rfl (lv_at hl 2 rfl) ?_
  refine lv_aload_n hx hb d_L_law_553 rfl (lv_at hl 4 rfl) ?_
  refine x_callC hI (vx_runSW (As := [.ref o, .ref out]) (rest := []) ⟨hx, hb, hml, hown, ht⟩ (w_first l G (va_A wc H.size) wc hst o z u lv le lk V E K inp w d wV wC hR hO out f) (vx_cwSW 2 ht (TW_S k_ml_L_95 k_st_L_first k_in_L k_code_L_first) rfl rfl rfl hv_L_first.2 ⟨Nat.le_of_ble_eq_true rfl, Nat.le_of_ble_eq_true rfl⟩) ⟨wP_blind, w_pre hE hN hS hI⟩ rfl rfl hl.1 rfl (lv_room (Nat.le_of_ble_eq_true rfl)) d_L_law_554 ⟨by show 26 + 40 * k + 40 ≤ 601024; omega, by show 19095 + 2000 * k + 2000 ≤ 7293034; omega⟩) hS (fun r5 u9 H locs hw hI hS => ?_)
  refine W.widen (k := 26 + 40 * (k + 1)) (n := 19095 + 2000 * (k + 1)) (by omega) (by omega) ?_
  refine lv_istore (lv' := [(5, .int r5), (4, .int (nI (5 * k))), (0, .ref b), (1, .ref o), (2, .ref a.m), (3, .ref out)]) hx hb d_L_law_557 hl (by decide) rfl (fun ls hl => ?_)
  refine lv_aload_n hx hb d_L_law_559 rfl (lv_at hl 4 rfl) ?_
  refine x_callM hI (va_runV (As := []) (rest := []) ⟨hx, hb, hml, hown, ht⟩ (m_first l G (va_A (mW G a st) H.size) (mW G a st) a st rfl V E K inp w wV wC hM hO) (cwV 0 ht (TW_V k_ml_L_97 k_im_M_first k_se_M_first k_in_M k_code_M_first) rfl rfl rfl hv_M_first ⟨Nat.le_of_ble_eq_true rfl, Nat.le_of_ble_eq_true rfl⟩) ⟨x_blind, va_recv hK hI.2.1 (ci := 5) rfl (q0 := 0) rfl, m_pre hE hS hI⟩ rfl rfl hl.1 rfl (lv_room (Nat.le_of_ble_eq_true rfl)) d_L_law_560 ⟨by show 26 + 40 * (k + 1) + 0 ≤ 601024; omega, by show 19095 + 2000 * (k + 1) + 0 ≤ 7293034; omega⟩) hS (fun r6 w9 H locs hm hI hS => ?_)
  refine W.widen (k := 26 + 40 * (k + 1)) (n := 19095 + 2000 * (k + 1)) (by omega) (by omega) ?_
  obtain ⟨st', rfl, hm⟩ := hm
  obtain ⟨hJ, e5, t2, hout⟩ := J_first hO hw hm
  refine lv_istore (lv' := [(6, .int r6), (5, .int r5), (4, .int (nI (5 * k))), (0, .ref b), (1, .ref o), (2, .ref a.m), (3, .ref out)]) hx hb d_L_law_563 hl (by decide) rfl (fun ls hl => ?_)
  refine lv_aload_n hx hb d_L_law_565 rfl (lv_at hl 5 rfl) ?_
  refine x_callM hI (va_runV (As := []) (rest := []) ⟨hx, hb, hml, hown, ht⟩ (c_M_thrown l G (va_A (mW G a st') H.size) (mW G a st') a st' rfl) (cwV 0 ht (TW_V k_ml_L_70 k_im_M_thrown k_se_M_thrown k_in_M k_code_M_thrown) rfl rfl rfl hv_M_thrown ⟨Nat.le_of_ble_eq_true rfl, Nat.le_of_ble_eq_true rfl⟩) ⟨x_blind, va_recv hK hI.2.1 (ci := 5) rfl (q0 := 0) rfl, m_pre hE hS hI⟩ rfl rfl hl.1 rfl (lv_room (Nat.le_of_ble_eq_true rfl)) d_L_law_566 ⟨by show 26 + 40 * (k + 1) + 0 ≤ 601024; omega, by show 19095 + 2000 * (k + 1) + 0 ≤ 7293034; omega⟩) hS (fun rT w9 H locs hq hI hS => ?_)
  refine W.widen (k := 26 + 40 * (k + 1)) (n := 19095 + 2000 * (k + 1)) (by omega) (by omega) ?_
  obtain ⟨rfl, rfl⟩ := hq
  refine lv_iload hx hb d_L_law_569 (lv_at hl 1 rfl) ?_
  refine x_eq hx hb st'.th st'.th rfl e5 (by omega) (by omega) (tgt := 576) d_L_law_571 (by decide) (fun _ => ?_) (fun q => absurd rfl q)
  refine lv_iload hx hb d_L_law_576 (lv_at hl 1 rfl) ?_
  refine x_if_ne hx hb st'.th e5 (by omega) (tgt := 593) d_L_law_578 (by decide) (fun _ => ?_) (fun q0 => ?_)
  · refine lv_goto (tgt := 844) hx hb d_L_law_593 (by decide) ?_
    exact next st' u9.1 u9.2 H locs ls hI hJ hS (lv_sub hl [2, 3, 4, 5, 6] rfl)
  · refine lv_aload_n hx hb d_L_law_581 rfl (lv_at hl 6 rfl) ?_
    refine lv_iconst (v := (nI 0)) hx hb d_L_law_582 (by decide) ?_
    refine va_lald hx hb hK hI.2.2.1 0 1 rfl rfl (vp_in_nI (by decide) (by decide)) d_L_law_583 ?_
    refine lv_iload hx hb d_L_law_584 (lv_at hl 0 rfl) ?_
    refine lv_i2l (v := r6.toInt64) hx hb d_L_law_586 rfl ?_
    refine W.lcmp hx hb d_L_law_587 ?_
    refine x_top (nI 0) (by rw [nI_clamp (by decide), hout q0]; exact lg_self _) ?_
    refine x_if_eq hx hb 0 rfl (by decide) (tgt := 593) d_L_law_588 (by decide) (fun _ => ?_) (fun q => absurd rfl q)
    refine lv_goto (tgt := 844) hx hb d_L_law_593 (by decide) ?_
    exact next st' u9.1 u9.2 H locs ls hI hJ hS (lv_sub hl [2, 3, 4, 5, 6] rfl)

set_option maxHeartbeats 4000000 in
set_option maxRecDepth 100000 in
theorem law_coefficient {p : Program} {l : Launch} {e : Env} {s : State} {m : MethodId} {below : List Frame} {meth : Method} {c : Code} {b L : Nat} {xs : Nat → Int32} {G : xG} (hc : lawC l p s m meth c b L xs G) {k : Nat} (hk : 5 * k + 5 ≤ L) {o z u lv le lk : Nat} {a : MA} {st : MS} {wc : va_W} {out : Nat} {f : Nat → Int64} {H : Heap} {locs : List Loc} {ls : Array Slot} (hI : LI G s.heap.size H wc (mW G a st) out f) (hJ : Jst G o z u lv le lk wc st) (hS : va_S (fun q => s.heap.size ≤ q) s.heap H locs) (hl : lv_has ls 7 [(4, .int (nI (5 * k))), (0, .ref b), (1, .ref o), (2, .ref a.m), (3, .ref out)]) (next : ∀ (st2 : MS) (wc2 : va_W) (f2 : Nat → Int64) (H2 : Heap) (locs2 : List Loc) (ls2 : Array Slot), LI G s.heap.size H2 wc2 (mW G a st2) out f2 → Jst G o z u lv le lk wc2 st2 → va_S (fun q => s.heap.size ≤ q) s.heap H2 locs2 → lv_has ls2 7 [(4, .int (nI (5 * k))), (0, .ref b), (1, .ref o), (2, .ref a.m), (3, .ref out)] → W p l e room_1 s m #[Value.ref b] below meth c H2 locs2 (26 + 40 * (k + 1)) (19095 + 2000 * (k + 1)) (lw_Z below #[Value.ref b] s) (F0 m 844 ls2 [])) : W p l e room_1 s m #[Value.ref b] below meth c H locs (26 + 40 * k) (19095 + 2000 * k) (lw_Z below #[Value.ref b] s) (F0 m 596 ls []) := by
  obtain ⟨hst, C0, hL, hE, hN⟩ := id hc
  obtain ⟨hx, hb, hr, hml, hown, hts, hX, hbl, hlocks, hgv⟩ := id C0
  have ht : ∀ w ∈ TW, w.before #[Value.ref b] s = true := fun w h => hts w (List.mem_filter.mp h).1
  have hK := hE.1
  obtain ⟨V, E, K, inp, w, d, wV, wC, hR, hO, hM⟩ := hJ
  obtain ⟨wa0, da0, ho0⟩ := CCs.o hR
  refine lv_aload_n hx hb d_L_law_596 rfl (lv_at hl 2 rfl) ?_
  refine lv_aload_n hx hb d_L_law_597 rfl (lv_at hl 1 rfl) ?_
  refine lv_iload hx hb d_L_law_598 (lv_at hl 0 rfl) ?_
  refine lv_iconst (v := (nI 1)) hx hb d_L_law_600 (by decide) ?_
  refine lv_iadd hx hb d_L_law_601 ?_
  refine x_top (nI ((5 * k) + 1)) (nI_add _ _) ?_
  refine x_sld hx hb hX hbl hS (5 * k + 1) (by omega) hL d_L_law_602 ?_
  refine lv_aload_n hx hb d_L_law_603 rfl (lv_at hl 1 rfl) ?_
  refine lv_iload hx hb d_L_law_604 (lv_at hl 0 rfl) ?_
  refine lv_iconst (v := (nI 2)) hx hb d_L_law_606 (by decide) ?_
  refine lv_iadd hx hb d_L_law_607 ?_
  refine x_top (nI ((5 * k) + 2)) (nI_add _ _) ?_
  refine x_sld hx hb hX hbl hS (5 * k + 2) (by omega) hL d_L_law_608 ?_
  refine lv_aload_n hx hb d_L_law_609 rfl (lv_at hl 1 rfl) ?_
  refine lv_iload hx hb d_L_law_610 (lv_at hl 0 rfl) ?_
  refine lv_iconst (v := (nI 3)) hx hb d_L_law_612 (by decide) ?_
  refine lv_iadd hx hb d_L_law_613 ?_
  refine x_top (nI ((5 * k) + 3)) (nI_add _ _) ?_
  refine x_sld hx hb hX hbl hS (5 * k + 3) (by omega) hL d_L_law_614 ?_
  refine lv_aload_n hx hb d_L_law_615 rfl (lv_at hl 4 rfl) ?_
  refine x_callC hI (vx_runSW (As := [.ref o, .int (xs (5 * k + 1)), .int (xs (5 * k + 2)), .int (xs (5 * k + 3)), .ref out]) (rest := []) ⟨hx, hb, hml, hown, ht⟩ (w_coefficient l G (va_A wc H.size) wc hst o z u lv le lk V E K inp w d wV wC hR hO (xs (5 * k + 1)) (xs (5 * k + 2)) (xs (5 * k + 3)) out f) (vx_cwSW 5 ht (TW_S k_ml_L_98 k_st_L_coefficient k_in_L k_code_L_coefficient) rfl rfl rfl hv_L_coefficient.2 ⟨Nat.le_of_ble_eq_true rfl, Nat.le_of_ble_eq_true rfl⟩) ⟨wP_blind, w_pre hE hN hS hI⟩ rfl rfl hl.1 rfl (lv_room (Nat.le_of_ble_eq_true rfl)) d_L_law_616 ⟨by show 26 + 40 * k + 40 ≤ 601024; omega, by show 19095 + 2000 * k + 2000 ≤ 7293034; omega⟩) hS (fun r5 u9 H locs hw hI hS => ?_)
  refine W.widen (k := 26 + 40 * (k + 1)) (n := 19095 + 2000 * (k + 1)) (by omega) (by omega) ?_
  refine lv_istore (lv' := [(5, .int r5), (4, .int (nI (5 * k))), (0, .ref b), (1, .ref o), (2, .ref a.m), (3, .ref out)]) hx hb d_L_law_619 hl (by decide) rfl (fun ls hl => ?_)
  refine lv_aload_n hx hb d_L_law_621 rfl (lv_at hl 4 rfl) ?_
  refine lv_aload_n hx hb d_L_law_622 rfl (lv_at hl 2 rfl) ?_
  refine lv_iload hx hb d_L_law_623 (lv_at hl 1 rfl) ?_
  refine lv_iconst (v := (nI 1)) hx hb d_L_law_625 (by decide) ?_
  refine lv_iadd hx hb d_L_law_626 ?_
  refine x_top (nI ((5 * k) + 1)) (nI_add _ _) ?_
  refine x_sld hx hb hX hbl hS (5 * k + 1) (by omega) hL d_L_law_627 ?_
  refine lv_aload_n hx hb d_L_law_628 rfl (lv_at hl 2 rfl) ?_
  refine lv_iload hx hb d_L_law_629 (lv_at hl 1 rfl) ?_
  refine lv_iconst (v := (nI 2)) hx hb d_L_law_631 (by decide) ?_
  refine lv_iadd hx hb d_L_law_632 ?_
  refine x_top (nI ((5 * k) + 2)) (nI_add _ _) ?_
  refine x_sld hx hb hX hbl hS (5 * k + 2) (by omega) hL d_L_law_633 ?_
  refine lv_aload_n hx hb d_L_law_634 rfl (lv_at hl 2 rfl) ?_
  refine lv_iload hx hb d_L_law_635 (lv_at hl 1 rfl) ?_
  refine lv_iconst (v := (nI 3)) hx hb d_L_law_637 (by decide) ?_
  refine lv_iadd hx hb d_L_law_638 ?_
  refine x_top (nI ((5 * k) + 3)) (nI_add _ _) ?_
  refine x_sld hx hb hX hbl hS (5 * k + 3) (by omega) hL d_L_law_639 ?_
  refine x_callM hI (va_runV (As := [.int (xs (5 * k + 1)), .int (xs (5 * k + 2)), .int (xs (5 * k + 3))]) (rest := []) ⟨hx, hb, hml, hown, ht⟩ (m_coef l G (va_A (mW G a st) H.size) (mW G a st) a st rfl V E K inp w wV wC hM hO (xs (5 * k + 1)) (xs (5 * k + 2)) (xs (5 * k + 3))) (cwV 3 ht (TW_V k_ml_L_100 k_im_M_coefficient k_se_M_coefficient k_in_M k_code_M_coefficient) rfl rfl rfl hv_M_coefficient ⟨Nat.le_of_ble_eq_true rfl, Nat.le_of_ble_eq_true rfl⟩) ⟨x_blind, va_recv hK hI.2.1 (ci := 5) rfl (q0 := 0) rfl, m_pre hE hS hI⟩ rfl rfl hl.1 rfl (lv_room (Nat.le_of_ble_eq_true rfl)) d_L_law_640 ⟨by show 26 + 40 * (k + 1) + 0 ≤ 601024; omega, by show 19095 + 2000 * (k + 1) + 0 ≤ 7293034; omega⟩) hS (fun r6 w9 H locs hm hI hS => ?_)
  refine W.widen (k := 26 + 40 * (k + 1)) (n := 19095 + 2000 * (k + 1)) (by omega) (by omega) ?_
  obtain ⟨st', rfl, hm⟩ := hm
  obtain ⟨hJ, e5, t2, hout⟩ := J_coefficient hO hw hm
  refine lv_istore (lv' := [(6, .int r6), (5, .int r5), (4, .int (nI (5 * k))), (0, .ref b), (1, .ref o), (2, .ref a.m), (3, .ref out)]) hx hb d_L_law_643 hl (by decide) rfl (fun ls hl => ?_)
  refine lv_aload_n hx hb d_L_law_645 rfl (lv_at hl 5 rfl) ?_
  refine x_callM hI (va_runV (As := []) (rest := []) ⟨hx, hb, hml, hown, ht⟩ (c_M_thrown l G (va_A (mW G a st') H.size) (mW G a st') a st' rfl) (cwV 0 ht (TW_V k_ml_L_70 k_im_M_thrown k_se_M_thrown k_in_M k_code_M_thrown) rfl rfl rfl hv_M_thrown ⟨Nat.le_of_ble_eq_true rfl, Nat.le_of_ble_eq_true rfl⟩) ⟨x_blind, va_recv hK hI.2.1 (ci := 5) rfl (q0 := 0) rfl, m_pre hE hS hI⟩ rfl rfl hl.1 rfl (lv_room (Nat.le_of_ble_eq_true rfl)) d_L_law_646 ⟨by show 26 + 40 * (k + 1) + 0 ≤ 601024; omega, by show 19095 + 2000 * (k + 1) + 0 ≤ 7293034; omega⟩) hS (fun rT w9 H locs hq hI hS => ?_)
  refine W.widen (k := 26 + 40 * (k + 1)) (n := 19095 + 2000 * (k + 1)) (by omega) (by omega) ?_
  obtain ⟨rfl, rfl⟩ := hq
  refine lv_iload hx hb d_L_law_649 (lv_at hl 1 rfl) ?_
  refine x_eq hx hb st'.th st'.th rfl e5 (by omega) (by omega) (tgt := 656) d_L_law_651 (by decide) (fun _ => ?_) (fun q => absurd rfl q)
  refine lv_iload hx hb d_L_law_656 (lv_at hl 1 rfl) ?_
  refine x_if_ne hx hb st'.th e5 (by omega) (tgt := 673) d_L_law_658 (by decide) (fun _ => ?_) (fun q0 => ?_)
  · refine lv_goto (tgt := 844) hx hb d_L_law_673 (by decide) ?_
    exact next st' u9.1 u9.2 H locs ls hI hJ hS (lv_sub hl [2, 3, 4, 5, 6] rfl)
  · refine lv_aload_n hx hb d_L_law_661 rfl (lv_at hl 6 rfl) ?_
    refine lv_iconst (v := (nI 0)) hx hb d_L_law_662 (by decide) ?_
    refine va_lald hx hb hK hI.2.2.1 0 1 rfl rfl (vp_in_nI (by decide) (by decide)) d_L_law_663 ?_
    refine lv_iload hx hb d_L_law_664 (lv_at hl 0 rfl) ?_
    refine lv_i2l (v := r6.toInt64) hx hb d_L_law_666 rfl ?_
    refine W.lcmp hx hb d_L_law_667 ?_
    refine x_top (nI 0) (by rw [nI_clamp (by decide), hout q0]; exact lg_self _) ?_
    refine x_if_eq hx hb 0 rfl (by decide) (tgt := 673) d_L_law_668 (by decide) (fun _ => ?_) (fun q => absurd rfl q)
    refine lv_goto (tgt := 844) hx hb d_L_law_673 (by decide) ?_
    exact next st' u9.1 u9.2 H locs ls hI hJ hS (lv_sub hl [2, 3, 4, 5, 6] rfl)

set_option maxHeartbeats 4000000 in
set_option maxRecDepth 100000 in
theorem law_terms {p : Program} {l : Launch} {e : Env} {s : State} {m : MethodId} {below : List Frame} {meth : Method} {c : Code} {b L : Nat} {xs : Nat → Int32} {G : xG} (hc : lawC l p s m meth c b L xs G) {k : Nat} (hk : 5 * k + 5 ≤ L) {o z u lv le lk : Nat} {a : MA} {st : MS} {wc : va_W} {out : Nat} {f : Nat → Int64} {H : Heap} {locs : List Loc} {ls : Array Slot} (hI : LI G s.heap.size H wc (mW G a st) out f) (hJ : Jst G o z u lv le lk wc st) (hS : va_S (fun q => s.heap.size ≤ q) s.heap H locs) (hl : lv_has ls 7 [(4, .int (nI (5 * k))), (0, .ref b), (1, .ref o), (2, .ref a.m), (3, .ref out)]) (next : ∀ (st2 : MS) (wc2 : va_W) (f2 : Nat → Int64) (H2 : Heap) (locs2 : List Loc) (ls2 : Array Slot), LI G s.heap.size H2 wc2 (mW G a st2) out f2 → Jst G o z u lv le lk wc2 st2 → va_S (fun q => s.heap.size ≤ q) s.heap H2 locs2 → lv_has ls2 7 [(4, .int (nI (5 * k))), (0, .ref b), (1, .ref o), (2, .ref a.m), (3, .ref out)] → W p l e room_1 s m #[Value.ref b] below meth c H2 locs2 (26 + 40 * (k + 1)) (19095 + 2000 * (k + 1)) (lw_Z below #[Value.ref b] s) (F0 m 844 ls2 [])) : W p l e room_1 s m #[Value.ref b] below meth c H locs (26 + 40 * k) (19095 + 2000 * k) (lw_Z below #[Value.ref b] s) (F0 m 676 ls []) := by
  obtain ⟨hst, C0, hL, hE, hN⟩ := id hc
  obtain ⟨hx, hb, hr, hml, hown, hts, hX, hbl, hlocks, hgv⟩ := id C0
  have ht : ∀ w ∈ TW, w.before #[Value.ref b] s = true := fun w h => hts w (List.mem_filter.mp h).1
  have hK := hE.1
  obtain ⟨V, E, K, inp, w, d, wV, wC, hR, hO, hM⟩ := hJ
  obtain ⟨wa0, da0, ho0⟩ := CCs.o hR
  refine lv_aload_n hx hb d_L_law_676 rfl (lv_at hl 2 rfl) ?_
  refine lv_aload_n hx hb d_L_law_677 rfl (lv_at hl 1 rfl) ?_
  refine lv_iload hx hb d_L_law_678 (lv_at hl 0 rfl) ?_
  refine lv_iconst (v := (nI 1)) hx hb d_L_law_680 (by decide) ?_
  refine lv_iadd hx hb d_L_law_681 ?_
  refine x_top (nI ((5 * k) + 1)) (nI_add _ _) ?_
  refine x_sld hx hb hX hbl hS (5 * k + 1) (by omega) hL d_L_law_682 ?_
  refine lv_aload_n hx hb d_L_law_683 rfl (lv_at hl 4 rfl) ?_
  refine x_callC hI (vx_runSW (As := [.ref o, .int (xs (5 * k + 1)), .ref out]) (rest := []) ⟨hx, hb, hml, hown, ht⟩ (w_terms l G (va_A wc H.size) wc hst o z u lv le lk V E K inp w d wV wC hR hO (xs (5 * k + 1)) out f) (vx_cwSW 3 ht (TW_S k_ml_L_101 k_st_L_terms k_in_L k_code_L_terms) rfl rfl rfl hv_L_terms.2 ⟨Nat.le_of_ble_eq_true rfl, Nat.le_of_ble_eq_true rfl⟩) ⟨wP_blind, w_pre hE hN hS hI⟩ rfl rfl hl.1 rfl (lv_room (Nat.le_of_ble_eq_true rfl)) d_L_law_684 ⟨by show 26 + 40 * k + 40 ≤ 601024; omega, by show 19095 + 2000 * k + 2000 ≤ 7293034; omega⟩) hS (fun r5 u9 H locs hw hI hS => ?_)
  refine W.widen (k := 26 + 40 * (k + 1)) (n := 19095 + 2000 * (k + 1)) (by omega) (by omega) ?_
  refine lv_istore (lv' := [(5, .int r5), (4, .int (nI (5 * k))), (0, .ref b), (1, .ref o), (2, .ref a.m), (3, .ref out)]) hx hb d_L_law_687 hl (by decide) rfl (fun ls hl => ?_)
  refine lv_aload_n hx hb d_L_law_689 rfl (lv_at hl 4 rfl) ?_
  refine lv_aload_n hx hb d_L_law_690 rfl (lv_at hl 2 rfl) ?_
  refine lv_iload hx hb d_L_law_691 (lv_at hl 1 rfl) ?_
  refine lv_iconst (v := (nI 1)) hx hb d_L_law_693 (by decide) ?_
  refine lv_iadd hx hb d_L_law_694 ?_
  refine x_top (nI ((5 * k) + 1)) (nI_add _ _) ?_
  refine x_sld hx hb hX hbl hS (5 * k + 1) (by omega) hL d_L_law_695 ?_
  refine x_callM hI (va_runV (As := [.int (xs (5 * k + 1))]) (rest := []) ⟨hx, hb, hml, hown, ht⟩ (m_terms l G (va_A (mW G a st) H.size) (mW G a st) a st rfl V E K inp w wV wC hM hO (xs (5 * k + 1))) (cwV 1 ht (TW_V k_ml_L_103 k_im_M_terms k_se_M_terms k_in_M k_code_M_terms) rfl rfl rfl hv_M_terms ⟨Nat.le_of_ble_eq_true rfl, Nat.le_of_ble_eq_true rfl⟩) ⟨x_blind, va_recv hK hI.2.1 (ci := 5) rfl (q0 := 0) rfl, m_pre hE hS hI⟩ rfl rfl hl.1 rfl (lv_room (Nat.le_of_ble_eq_true rfl)) d_L_law_696 ⟨by show 26 + 40 * (k + 1) + 0 ≤ 601024; omega, by show 19095 + 2000 * (k + 1) + 0 ≤ 7293034; omega⟩) hS (fun r6 w9 H locs hm hI hS => ?_)
  refine W.widen (k := 26 + 40 * (k + 1)) (n := 19095 + 2000 * (k + 1)) (by omega) (by omega) ?_
  obtain ⟨st', rfl, hm⟩ := hm
  obtain ⟨hJ, e5, t2, hout⟩ := J_terms hO hw hm
  refine lv_istore (lv' := [(6, .int r6), (5, .int r5), (4, .int (nI (5 * k))), (0, .ref b), (1, .ref o), (2, .ref a.m), (3, .ref out)]) hx hb d_L_law_699 hl (by decide) rfl (fun ls hl => ?_)
  refine lv_aload_n hx hb d_L_law_701 rfl (lv_at hl 5 rfl) ?_
  refine x_callM hI (va_runV (As := []) (rest := []) ⟨hx, hb, hml, hown, ht⟩ (c_M_thrown l G (va_A (mW G a st') H.size) (mW G a st') a st' rfl) (cwV 0 ht (TW_V k_ml_L_70 k_im_M_thrown k_se_M_thrown k_in_M k_code_M_thrown) rfl rfl rfl hv_M_thrown ⟨Nat.le_of_ble_eq_true rfl, Nat.le_of_ble_eq_true rfl⟩) ⟨x_blind, va_recv hK hI.2.1 (ci := 5) rfl (q0 := 0) rfl, m_pre hE hS hI⟩ rfl rfl hl.1 rfl (lv_room (Nat.le_of_ble_eq_true rfl)) d_L_law_702 ⟨by show 26 + 40 * (k + 1) + 0 ≤ 601024; omega, by show 19095 + 2000 * (k + 1) + 0 ≤ 7293034; omega⟩) hS (fun rT w9 H locs hq hI hS => ?_)
  refine W.widen (k := 26 + 40 * (k + 1)) (n := 19095 + 2000 * (k + 1)) (by omega) (by omega) ?_
  obtain ⟨rfl, rfl⟩ := hq
  refine lv_iload hx hb d_L_law_705 (lv_at hl 1 rfl) ?_
  refine x_eq hx hb st'.th st'.th rfl e5 (by omega) (by omega) (tgt := 712) d_L_law_707 (by decide) (fun _ => ?_) (fun q => absurd rfl q)
  refine lv_iload hx hb d_L_law_712 (lv_at hl 1 rfl) ?_
  refine x_if_ne hx hb st'.th e5 (by omega) (tgt := 729) d_L_law_714 (by decide) (fun _ => ?_) (fun q0 => ?_)
  · refine lv_goto (tgt := 844) hx hb d_L_law_729 (by decide) ?_
    exact next st' u9.1 u9.2 H locs ls hI hJ hS (lv_sub hl [2, 3, 4, 5, 6] rfl)
  · refine lv_aload_n hx hb d_L_law_717 rfl (lv_at hl 6 rfl) ?_
    refine lv_iconst (v := (nI 0)) hx hb d_L_law_718 (by decide) ?_
    refine va_lald hx hb hK hI.2.2.1 0 1 rfl rfl (vp_in_nI (by decide) (by decide)) d_L_law_719 ?_
    refine lv_iload hx hb d_L_law_720 (lv_at hl 0 rfl) ?_
    refine lv_i2l (v := r6.toInt64) hx hb d_L_law_722 rfl ?_
    refine W.lcmp hx hb d_L_law_723 ?_
    refine x_top (nI 0) (by rw [nI_clamp (by decide), hout q0]; exact lg_self _) ?_
    refine x_if_eq hx hb 0 rfl (by decide) (tgt := 729) d_L_law_724 (by decide) (fun _ => ?_) (fun q => absurd rfl q)
    refine lv_goto (tgt := 844) hx hb d_L_law_729 (by decide) ?_
    exact next st' u9.1 u9.2 H locs ls hI hJ hS (lv_sub hl [2, 3, 4, 5, 6] rfl)

set_option maxHeartbeats 4000000 in
set_option maxRecDepth 100000 in
theorem law_uses {p : Program} {l : Launch} {e : Env} {s : State} {m : MethodId} {below : List Frame} {meth : Method} {c : Code} {b L : Nat} {xs : Nat → Int32} {G : xG} (hc : lawC l p s m meth c b L xs G) {k : Nat} (hk : 5 * k + 5 ≤ L) {o z u lv le lk : Nat} {a : MA} {st : MS} {wc : va_W} {out : Nat} {f : Nat → Int64} {H : Heap} {locs : List Loc} {ls : Array Slot} (hI : LI G s.heap.size H wc (mW G a st) out f) (hJ : Jst G o z u lv le lk wc st) (hS : va_S (fun q => s.heap.size ≤ q) s.heap H locs) (hl : lv_has ls 7 [(4, .int (nI (5 * k))), (0, .ref b), (1, .ref o), (2, .ref a.m), (3, .ref out)]) (next : ∀ (st2 : MS) (wc2 : va_W) (f2 : Nat → Int64) (H2 : Heap) (locs2 : List Loc) (ls2 : Array Slot), LI G s.heap.size H2 wc2 (mW G a st2) out f2 → Jst G o z u lv le lk wc2 st2 → va_S (fun q => s.heap.size ≤ q) s.heap H2 locs2 → lv_has ls2 7 [(4, .int (nI (5 * k))), (0, .ref b), (1, .ref o), (2, .ref a.m), (3, .ref out)] → W p l e room_1 s m #[Value.ref b] below meth c H2 locs2 (26 + 40 * (k + 1)) (19095 + 2000 * (k + 1)) (lw_Z below #[Value.ref b] s) (F0 m 844 ls2 [])) : W p l e room_1 s m #[Value.ref b] below meth c H locs (26 + 40 * k) (19095 + 2000 * k) (lw_Z below #[Value.ref b] s) (F0 m 732 ls []) := by
  obtain ⟨hst, C0, hL, hE, hN⟩ := id hc
  obtain ⟨hx, hb, hr, hml, hown, hts, hX, hbl, hlocks, hgv⟩ := id C0
  have ht : ∀ w ∈ TW, w.before #[Value.ref b] s = true := fun w h => hts w (List.mem_filter.mp h).1
  have hK := hE.1
  obtain ⟨V, E, K, inp, w, d, wV, wC, hR, hO, hM⟩ := hJ
  obtain ⟨wa0, da0, ho0⟩ := CCs.o hR
  refine lv_aload_n hx hb d_L_law_732 rfl (lv_at hl 2 rfl) ?_
  refine lv_aload_n hx hb d_L_law_733 rfl (lv_at hl 1 rfl) ?_
  refine lv_iload hx hb d_L_law_734 (lv_at hl 0 rfl) ?_
  refine lv_iconst (v := (nI 1)) hx hb d_L_law_736 (by decide) ?_
  refine lv_iadd hx hb d_L_law_737 ?_
  refine x_top (nI ((5 * k) + 1)) (nI_add _ _) ?_
  refine x_sld hx hb hX hbl hS (5 * k + 1) (by omega) hL d_L_law_738 ?_
  refine lv_aload_n hx hb d_L_law_739 rfl (lv_at hl 4 rfl) ?_
  refine x_callC hI (vx_runSW (As := [.ref o, .int (xs (5 * k + 1)), .ref out]) (rest := []) ⟨hx, hb, hml, hown, ht⟩ (w_uses l G (va_A wc H.size) wc hst o z u lv le lk V E K inp w d wV wC hR hO (xs (5 * k + 1)) out f) (vx_cwSW 3 ht (TW_S k_ml_L_104 k_st_L_uses k_in_L k_code_L_uses) rfl rfl rfl hv_L_uses.2 ⟨Nat.le_of_ble_eq_true rfl, Nat.le_of_ble_eq_true rfl⟩) ⟨wP_blind, w_pre hE hN hS hI⟩ rfl rfl hl.1 rfl (lv_room (Nat.le_of_ble_eq_true rfl)) d_L_law_740 ⟨by show 26 + 40 * k + 40 ≤ 601024; omega, by show 19095 + 2000 * k + 2000 ≤ 7293034; omega⟩) hS (fun r5 u9 H locs hw hI hS => ?_)
  refine W.widen (k := 26 + 40 * (k + 1)) (n := 19095 + 2000 * (k + 1)) (by omega) (by omega) ?_
  refine lv_istore (lv' := [(5, .int r5), (4, .int (nI (5 * k))), (0, .ref b), (1, .ref o), (2, .ref a.m), (3, .ref out)]) hx hb d_L_law_743 hl (by decide) rfl (fun ls hl => ?_)
  refine lv_aload_n hx hb d_L_law_745 rfl (lv_at hl 4 rfl) ?_
  refine lv_aload_n hx hb d_L_law_746 rfl (lv_at hl 2 rfl) ?_
  refine lv_iload hx hb d_L_law_747 (lv_at hl 1 rfl) ?_
  refine lv_iconst (v := (nI 1)) hx hb d_L_law_749 (by decide) ?_
  refine lv_iadd hx hb d_L_law_750 ?_
  refine x_top (nI ((5 * k) + 1)) (nI_add _ _) ?_
  refine x_sld hx hb hX hbl hS (5 * k + 1) (by omega) hL d_L_law_751 ?_
  refine x_callM hI (va_runV (As := [.int (xs (5 * k + 1))]) (rest := []) ⟨hx, hb, hml, hown, ht⟩ (m_uses l G (va_A (mW G a st) H.size) (mW G a st) a st rfl V E K inp w wV wC hM hO (xs (5 * k + 1))) (cwV 1 ht (TW_V k_ml_L_106 k_im_M_uses k_se_M_uses k_in_M k_code_M_uses) rfl rfl rfl hv_M_uses ⟨Nat.le_of_ble_eq_true rfl, Nat.le_of_ble_eq_true rfl⟩) ⟨x_blind, va_recv hK hI.2.1 (ci := 5) rfl (q0 := 0) rfl, m_pre hE hS hI⟩ rfl rfl hl.1 rfl (lv_room (Nat.le_of_ble_eq_true rfl)) d_L_law_752 ⟨by show 26 + 40 * (k + 1) + 0 ≤ 601024; omega, by show 19095 + 2000 * (k + 1) + 0 ≤ 7293034; omega⟩) hS (fun r6 w9 H locs hm hI hS => ?_)
  refine W.widen (k := 26 + 40 * (k + 1)) (n := 19095 + 2000 * (k + 1)) (by omega) (by omega) ?_
  obtain ⟨st', rfl, hm⟩ := hm
  obtain ⟨hJ, e5, t2, hout⟩ := J_uses hO hw hm
  refine lv_istore (lv' := [(6, .int r6), (5, .int r5), (4, .int (nI (5 * k))), (0, .ref b), (1, .ref o), (2, .ref a.m), (3, .ref out)]) hx hb d_L_law_755 hl (by decide) rfl (fun ls hl => ?_)
  refine lv_aload_n hx hb d_L_law_757 rfl (lv_at hl 5 rfl) ?_
  refine x_callM hI (va_runV (As := []) (rest := []) ⟨hx, hb, hml, hown, ht⟩ (c_M_thrown l G (va_A (mW G a st') H.size) (mW G a st') a st' rfl) (cwV 0 ht (TW_V k_ml_L_70 k_im_M_thrown k_se_M_thrown k_in_M k_code_M_thrown) rfl rfl rfl hv_M_thrown ⟨Nat.le_of_ble_eq_true rfl, Nat.le_of_ble_eq_true rfl⟩) ⟨x_blind, va_recv hK hI.2.1 (ci := 5) rfl (q0 := 0) rfl, m_pre hE hS hI⟩ rfl rfl hl.1 rfl (lv_room (Nat.le_of_ble_eq_true rfl)) d_L_law_758 ⟨by show 26 + 40 * (k + 1) + 0 ≤ 601024; omega, by show 19095 + 2000 * (k + 1) + 0 ≤ 7293034; omega⟩) hS (fun rT w9 H locs hq hI hS => ?_)
  refine W.widen (k := 26 + 40 * (k + 1)) (n := 19095 + 2000 * (k + 1)) (by omega) (by omega) ?_
  obtain ⟨rfl, rfl⟩ := hq
  refine lv_iload hx hb d_L_law_761 (lv_at hl 1 rfl) ?_
  refine x_eq hx hb st'.th st'.th rfl e5 (by omega) (by omega) (tgt := 768) d_L_law_763 (by decide) (fun _ => ?_) (fun q => absurd rfl q)
  refine lv_iload hx hb d_L_law_768 (lv_at hl 1 rfl) ?_
  refine x_if_ne hx hb st'.th e5 (by omega) (tgt := 785) d_L_law_770 (by decide) (fun _ => ?_) (fun q0 => ?_)
  · refine lv_goto (tgt := 844) hx hb d_L_law_785 (by decide) ?_
    exact next st' u9.1 u9.2 H locs ls hI hJ hS (lv_sub hl [2, 3, 4, 5, 6] rfl)
  · refine lv_aload_n hx hb d_L_law_773 rfl (lv_at hl 6 rfl) ?_
    refine lv_iconst (v := (nI 0)) hx hb d_L_law_774 (by decide) ?_
    refine va_lald hx hb hK hI.2.2.1 0 1 rfl rfl (vp_in_nI (by decide) (by decide)) d_L_law_775 ?_
    refine lv_iload hx hb d_L_law_776 (lv_at hl 0 rfl) ?_
    refine lv_i2l (v := r6.toInt64) hx hb d_L_law_778 rfl ?_
    refine W.lcmp hx hb d_L_law_779 ?_
    refine x_top (nI 0) (by rw [nI_clamp (by decide), hout q0]; exact lg_self _) ?_
    refine x_if_eq hx hb 0 rfl (by decide) (tgt := 785) d_L_law_780 (by decide) (fun _ => ?_) (fun q => absurd rfl q)
    refine lv_goto (tgt := 844) hx hb d_L_law_785 (by decide) ?_
    exact next st' u9.1 u9.2 H locs ls hI hJ hS (lv_sub hl [2, 3, 4, 5, 6] rfl)

set_option maxHeartbeats 4000000 in
set_option maxRecDepth 100000 in
theorem law_count {p : Program} {l : Launch} {e : Env} {s : State} {m : MethodId} {below : List Frame} {meth : Method} {c : Code} {b L : Nat} {xs : Nat → Int32} {G : xG} (hc : lawC l p s m meth c b L xs G) {k : Nat} (hk : 5 * k + 5 ≤ L) {o z u lv le lk : Nat} {a : MA} {st : MS} {wc : va_W} {out : Nat} {f : Nat → Int64} {H : Heap} {locs : List Loc} {ls : Array Slot} (hI : LI G s.heap.size H wc (mW G a st) out f) (hJ : Jst G o z u lv le lk wc st) (hS : va_S (fun q => s.heap.size ≤ q) s.heap H locs) (hl : lv_has ls 7 [(4, .int (nI (5 * k))), (0, .ref b), (1, .ref o), (2, .ref a.m), (3, .ref out)]) (next : ∀ (st2 : MS) (wc2 : va_W) (f2 : Nat → Int64) (H2 : Heap) (locs2 : List Loc) (ls2 : Array Slot), LI G s.heap.size H2 wc2 (mW G a st2) out f2 → Jst G o z u lv le lk wc2 st2 → va_S (fun q => s.heap.size ≤ q) s.heap H2 locs2 → lv_has ls2 7 [(4, .int (nI (5 * k))), (0, .ref b), (1, .ref o), (2, .ref a.m), (3, .ref out)] → W p l e room_1 s m #[Value.ref b] below meth c H2 locs2 (26 + 40 * (k + 1)) (19095 + 2000 * (k + 1)) (lw_Z below #[Value.ref b] s) (F0 m 844 ls2 [])) : W p l e room_1 s m #[Value.ref b] below meth c H locs (26 + 40 * k) (19095 + 2000 * k) (lw_Z below #[Value.ref b] s) (F0 m 788 ls []) := by
  obtain ⟨hst, C0, hL, hE, hN⟩ := id hc
  obtain ⟨hx, hb, hr, hml, hown, hts, hX, hbl, hlocks, hgv⟩ := id C0
  have ht : ∀ w ∈ TW, w.before #[Value.ref b] s = true := fun w h => hts w (List.mem_filter.mp h).1
  have hK := hE.1
  obtain ⟨V, E, K, inp, w, d, wV, wC, hR, hO, hM⟩ := hJ
  obtain ⟨wa0, da0, ho0⟩ := CCs.o hR
  refine lv_aload_n hx hb d_L_law_788 rfl (lv_at hl 2 rfl) ?_
  refine lv_aload_n hx hb d_L_law_789 rfl (lv_at hl 1 rfl) ?_
  refine lv_iload hx hb d_L_law_790 (lv_at hl 0 rfl) ?_
  refine lv_iconst (v := (nI 1)) hx hb d_L_law_792 (by decide) ?_
  refine lv_iadd hx hb d_L_law_793 ?_
  refine x_top (nI ((5 * k) + 1)) (nI_add _ _) ?_
  refine x_sld hx hb hX hbl hS (5 * k + 1) (by omega) hL d_L_law_794 ?_
  refine lv_aload_n hx hb d_L_law_795 rfl (lv_at hl 4 rfl) ?_
  refine x_callC hI (vx_runSW (As := [.ref o, .int (xs (5 * k + 1)), .ref out]) (rest := []) ⟨hx, hb, hml, hown, ht⟩ (w_count l G (va_A wc H.size) wc hst o z u lv le lk V E K inp w d wV wC hR hO (xs (5 * k + 1)) out f) (vx_cwSW 3 ht (TW_S k_ml_L_107 k_st_L_count k_in_L k_code_L_count) rfl rfl rfl hv_L_count.2 ⟨Nat.le_of_ble_eq_true rfl, Nat.le_of_ble_eq_true rfl⟩) ⟨wP_blind, w_pre hE hN hS hI⟩ rfl rfl hl.1 rfl (lv_room (Nat.le_of_ble_eq_true rfl)) d_L_law_796 ⟨by show 26 + 40 * k + 40 ≤ 601024; omega, by show 19095 + 2000 * k + 2000 ≤ 7293034; omega⟩) hS (fun r5 u9 H locs hw hI hS => ?_)
  refine W.widen (k := 26 + 40 * (k + 1)) (n := 19095 + 2000 * (k + 1)) (by omega) (by omega) ?_
  refine lv_istore (lv' := [(5, .int r5), (4, .int (nI (5 * k))), (0, .ref b), (1, .ref o), (2, .ref a.m), (3, .ref out)]) hx hb d_L_law_799 hl (by decide) rfl (fun ls hl => ?_)
  refine lv_aload_n hx hb d_L_law_801 rfl (lv_at hl 4 rfl) ?_
  refine lv_aload_n hx hb d_L_law_802 rfl (lv_at hl 2 rfl) ?_
  refine lv_iload hx hb d_L_law_803 (lv_at hl 1 rfl) ?_
  refine lv_iconst (v := (nI 1)) hx hb d_L_law_805 (by decide) ?_
  refine lv_iadd hx hb d_L_law_806 ?_
  refine x_top (nI ((5 * k) + 1)) (nI_add _ _) ?_
  refine x_sld hx hb hX hbl hS (5 * k + 1) (by omega) hL d_L_law_807 ?_
  refine x_callM hI (va_runV (As := [.int (xs (5 * k + 1))]) (rest := []) ⟨hx, hb, hml, hown, ht⟩ (m_count l G (va_A (mW G a st) H.size) (mW G a st) a st rfl V E K inp w wV wC hM hO (xs (5 * k + 1))) (cwV 1 ht (TW_V k_ml_L_109 k_im_M_count k_se_M_count k_in_M k_code_M_count) rfl rfl rfl hv_M_count ⟨Nat.le_of_ble_eq_true rfl, Nat.le_of_ble_eq_true rfl⟩) ⟨x_blind, va_recv hK hI.2.1 (ci := 5) rfl (q0 := 0) rfl, m_pre hE hS hI⟩ rfl rfl hl.1 rfl (lv_room (Nat.le_of_ble_eq_true rfl)) d_L_law_808 ⟨by show 26 + 40 * (k + 1) + 0 ≤ 601024; omega, by show 19095 + 2000 * (k + 1) + 0 ≤ 7293034; omega⟩) hS (fun r6 w9 H locs hm hI hS => ?_)
  refine W.widen (k := 26 + 40 * (k + 1)) (n := 19095 + 2000 * (k + 1)) (by omega) (by omega) ?_
  obtain ⟨st', rfl, hm⟩ := hm
  obtain ⟨hJ, e5, t2, hout⟩ := J_count hO hw hm
  refine lv_istore (lv' := [(6, .int r6), (5, .int r5), (4, .int (nI (5 * k))), (0, .ref b), (1, .ref o), (2, .ref a.m), (3, .ref out)]) hx hb d_L_law_811 hl (by decide) rfl (fun ls hl => ?_)
  refine lv_aload_n hx hb d_L_law_813 rfl (lv_at hl 5 rfl) ?_
  refine x_callM hI (va_runV (As := []) (rest := []) ⟨hx, hb, hml, hown, ht⟩ (c_M_thrown l G (va_A (mW G a st') H.size) (mW G a st') a st' rfl) (cwV 0 ht (TW_V k_ml_L_70 k_im_M_thrown k_se_M_thrown k_in_M k_code_M_thrown) rfl rfl rfl hv_M_thrown ⟨Nat.le_of_ble_eq_true rfl, Nat.le_of_ble_eq_true rfl⟩) ⟨x_blind, va_recv hK hI.2.1 (ci := 5) rfl (q0 := 0) rfl, m_pre hE hS hI⟩ rfl rfl hl.1 rfl (lv_room (Nat.le_of_ble_eq_true rfl)) d_L_law_814 ⟨by show 26 + 40 * (k + 1) + 0 ≤ 601024; omega, by show 19095 + 2000 * (k + 1) + 0 ≤ 7293034; omega⟩) hS (fun rT w9 H locs hq hI hS => ?_)
  refine W.widen (k := 26 + 40 * (k + 1)) (n := 19095 + 2000 * (k + 1)) (by omega) (by omega) ?_
  obtain ⟨rfl, rfl⟩ := hq
  refine lv_iload hx hb d_L_law_817 (lv_at hl 1 rfl) ?_
  refine x_eq hx hb st'.th st'.th rfl e5 (by omega) (by omega) (tgt := 824) d_L_law_819 (by decide) (fun _ => ?_) (fun q => absurd rfl q)
  refine lv_iload hx hb d_L_law_824 (lv_at hl 1 rfl) ?_
  refine x_if_ne hx hb st'.th e5 (by omega) (tgt := 841) d_L_law_826 (by decide) (fun _ => ?_) (fun q0 => ?_)
  · refine lv_goto (tgt := 844) hx hb d_L_law_841 (by decide) ?_
    exact next st' u9.1 u9.2 H locs ls hI hJ hS (lv_sub hl [2, 3, 4, 5, 6] rfl)
  · refine lv_aload_n hx hb d_L_law_829 rfl (lv_at hl 6 rfl) ?_
    refine lv_iconst (v := (nI 0)) hx hb d_L_law_830 (by decide) ?_
    refine va_lald hx hb hK hI.2.2.1 0 1 rfl rfl (vp_in_nI (by decide) (by decide)) d_L_law_831 ?_
    refine lv_iload hx hb d_L_law_832 (lv_at hl 0 rfl) ?_
    refine lv_i2l (v := r6.toInt64) hx hb d_L_law_834 rfl ?_
    refine W.lcmp hx hb d_L_law_835 ?_
    refine x_top (nI 0) (by rw [nI_clamp (by decide), hout q0]; exact lg_self _) ?_
    refine x_if_eq hx hb 0 rfl (by decide) (tgt := 841) d_L_law_836 (by decide) (fun _ => ?_) (fun q => absurd rfl q)
    refine lv_goto (tgt := 844) hx hb d_L_law_841 (by decide) ?_
    exact next st' u9.1 u9.2 H locs ls hI hJ hS (lv_sub hl [2, 3, 4, 5, 6] rfl)
