/-! the law's three worlds: the class's cells, the reference's, the row of one long -/
theorem lg_self (x : Int64) : lg_cmp x x = nI 0 := by unfold lg_cmp; simp; rfl
theorem x_E.narrow {G : xG} {A B : Nat → Prop} {U : State} {H : Heap} (h : x_E G A U H) (hAB : ∀ q, B q → A q) : x_E G B U H := by
  obtain ⟨h1, h2, h3, h4, h5, h6, h7, h8⟩ := h
  exact ⟨h1, h2.narrow hAB, h3.narrow hAB, h4, h5, h6.narrow hAB, h7.narrow hAB, h8⟩
theorem x_pre2 {G : xG} {A0 A : Nat → Prop} {ws : va_W} {av : List Value} {s : State} {H : Heap} {locs : List Loc} (hE : x_E G A0 s s.heap) (hS : va_S A0 s.heap H locs) (hsub : ∀ q, A q → A0 q) (hA : ∀ q, H.size ≤ q → A q) (hP : va_P (xD G) CL ws H) (hD : va_D A ws) :
    ∀ U : State, U.heap = H → s.WarmedH U.vm → va_Pc av (x_P G A ws) av.toArray U := by
  intro U hU hW
  refine ⟨rfl, ?_, fun q h => hA q (by rw [← hU]; exact h), by rw [hU]; exact hP, hD⟩
  rw [hU]
  exact ((hE.warm hW).kept (fun a h1 h2 => hS.2.1 a h1 h2)).narrow hsub
def LI (G : xG) (sz : Nat) (H : Heap) (wc wm : va_W) (out : Nat) (f : Nat → Int64) : Prop := va_P (xD G) CL wc H ∧ va_P (xD G) CL wm H ∧ va_P (xD G) CL [(out, aJ G 1 f)] H ∧ va_D (fun q => sz ≤ q) wc ∧ va_D (fun q => sz ≤ q) wm ∧ sz ≤ out ∧ (∀ (i j : Nat) (p q : Nat × va_E), wc[i]? = some p → wm[j]? = some q → p.1 ≠ q.1) ∧ (∀ (i : Nat) (p : Nat × va_E), wc[i]? = some p → p.1 ≠ out) ∧ ∀ (j : Nat) (q : Nat × va_E), wm[j]? = some q → q.1 ≠ out
theorem va_A_sub {ws : va_W} {sz n : Nat} (hD : va_D (fun q => sz ≤ q) ws) (hz : sz ≤ n) : ∀ q, va_A ws n q → sz ≤ q := by
  intro q h
  rcases h with ⟨k, e, hk⟩ | h
  · exact hD.2 k _ hk
  · omega
theorem LI.outlt {G : xG} {sz : Nat} {H : Heap} {wc wm : va_W} {out : Nat} {f : Nat → Int64} (h : LI G sz H wc wm out f) : out < H.size := vx_lt h.2.2.1 (k := 0) (q := (out, aJ G 1 f)) rfl
theorem LI.outA {G : xG} {sz : Nat} {H : Heap} {wc wm : va_W} {out : Nat} {f : Nat → Int64} (h : LI G sz H wc wm out f) : ¬ va_A wc H.size out := by
  have hl := h.outlt
  obtain ⟨-, -, -, -, -, -, -, h8, -⟩ := h
  intro q
  rcases q with ⟨k, e, hk⟩ | q
  · exact h8 k _ hk rfl
  · omega
theorem w_pre {G : xG} {wc wm : va_W} {av : List Value} {s : State} {H : Heap} {locs : List Loc} {out : Nat} {f : Nat → Int64} (hE : x_E G (fun q => s.heap.size ≤ q) s s.heap) (hN : ncP s) (hS : va_S (fun q => s.heap.size ≤ q) s.heap H locs) (hI : LI G s.heap.size H wc wm out f) :
    ∀ U : State, U.heap = H → s.WarmedH U.vm → va_Pc av (wP G (va_A wc H.size) wc out f) av.toArray U := by
  intro U hU hW
  obtain ⟨-, h2⟩ := x_pre2 (av := av) hE hS (va_A_sub hI.2.2.2.1 hS.1) (fun q h => Or.inr h) hI.1 hI.2.2.2.1.self U hU hW
  exact ⟨rfl, h2, by rw [hU]; exact hI.2.2.1, hI.outA, hN.moved hW.alike⟩
theorem m_pre {G : xG} {wc wm : va_W} {av : List Value} {s : State} {H : Heap} {locs : List Loc} {out : Nat} {f : Nat → Int64} (hE : x_E G (fun q => s.heap.size ≤ q) s s.heap) (hS : va_S (fun q => s.heap.size ≤ q) s.heap H locs) (hI : LI G s.heap.size H wc wm out f) :
    ∀ U : State, U.heap = H → s.WarmedH U.vm → va_Pc av (x_P G (va_A wm H.size) wm) av.toArray U := x_pre2 hE hS (va_A_sub hI.2.2.2.2.1 hS.1) (fun q h => Or.inr h) hI.2.1 hI.2.2.2.2.1.self
section XL
variable {p : Program} {l : Launch} {e : Env} {R : Room} {s : State} {m : MethodId} {args : Array Value} {below : List Frame} {meth : Method} {c : Code} {H : Heap} {locs : List Loc} {cells slots : Nat} {Q : State → Prop}
variable {cc : ByteArray} {pc : Nat} {ls : Array Slot} {rest st0 : List Value} {G : xG} {wc wm : va_W} {out : Nat} {f : Nat → Int64} {mc ms : Nat} {a : Array Value}
theorem x_callM {post : Int32 → va_W → Prop} (hI : LI G s.heap.size H wc wm out f) (hr : va_Run p l e R s m args below meth c H locs cells slots mc ms (F0 m pc ls st0) rest (qI G (va_A wm H.size) post a) (va_A wm H.size)) (hS : va_S (fun q => s.heap.size ≤ q) s.heap H locs)
    (kk : ∀ (r : Int32) (w : va_W) (H1 : Heap) (locs1 : List Loc), post r w → LI G s.heap.size H1 wc w out f → va_S (fun q => s.heap.size ≤ q) s.heap H1 locs1 → W p l e R s m args below meth c H1 locs1 (cells + mc) (slots + ms) Q (F0 m (pc + 3) ls (.int r :: rest))) : W p l e R s m args below meth c H locs cells slots Q (F0 m pc ls st0) := by
  obtain ⟨h1, h2, h3, h4, h5, h6, h7, h8, h9⟩ := id hI
  have hol := hI.outlt
  refine va_calli hr hS (fun q _ h => va_A_sub h5 hS.1 q h) (fun q h => va_A_sub h5 hS.1 q h) (fun r w t H1 locs1 e9 _ hq hB hz hk hS1 => kk r w H1 locs1 hq ?_ hS1)
  obtain ⟨hP, hD⟩ := hB
  rw [e9] at hP
  have new : ∀ (j : Nat) (q : Nat × va_E) (x : Nat), w[j]? = some q → x < H.size → (∀ (i : Nat) (y : Nat × va_E), wm[i]? = some y → x ≠ y.1) → x ≠ q.1 := by
    intro j q x hj hx hd e
    rcases hD.2 j q hj with ⟨k, e2, hk2⟩ | h
    · exact hd k _ hk2 e
    · omega
  refine ⟨h1.kept (fun k q hkq => hk q.1 (vx_lt h1 hkq) ?_), hP, keepO h3 hk ?_, h4, hD.weaken (fun k q _ h => va_A_sub h5 hS.1 q.1 h), h6, ?_, h8, ?_⟩
  · rintro (⟨k2, e2, hk2⟩ | h)
    · exact h7 k k2 q _ hkq hk2 rfl
    · exact absurd (vx_lt h1 hkq) (by omega)
  · rintro (⟨k2, e2, hk2⟩ | h)
    · exact h9 k2 _ hk2 rfl
    · omega
  · intro i j x y hi hj
    exact new j y x.1 hj (vx_lt h1 hi) (fun i2 y2 h => h7 i i2 x y2 hi h)
  · intro j y hj q
    exact new j y out hj hol (fun i2 y2 h e => h9 i2 y2 h e.symm) q.symm
theorem x_callC {post : Int32 → va_W × (Nat → Int64) → Prop} (hI : LI G s.heap.size H wc wm out f) (hr : va_Run p l e R s m args below meth c H locs cells slots mc ms (F0 m pc ls st0) rest (va_Qi post (wB G (va_A wc H.size) out) (wA (va_A wc H.size) out) a) (wA (va_A wc H.size) out)) (hS : va_S (fun q => s.heap.size ≤ q) s.heap H locs)
    (kk : ∀ (r : Int32) (u : va_W × (Nat → Int64)) (H1 : Heap) (locs1 : List Loc), post r u → LI G s.heap.size H1 u.1 wm out u.2 → va_S (fun q => s.heap.size ≤ q) s.heap H1 locs1 → W p l e R s m args below meth c H1 locs1 (cells + mc) (slots + ms) Q (F0 m (pc + 3) ls (.int r :: rest))) : W p l e R s m args below meth c H locs cells slots Q (F0 m pc ls st0) := by
  obtain ⟨h1, h2, h3, h4, h5, h6, h7, h8, h9⟩ := id hI
  have hol := hI.outlt
  have sub : ∀ q, wA (va_A wc H.size) out q → s.heap.size ≤ q := by
    intro q h
    rcases h with h | h
    · exact va_A_sub h4 hS.1 q h
    · rw [h]; exact h6
  refine va_calli hr hS (fun q _ h => sub q h) sub (fun r u t H1 locs1 e9 _ hq hB hz hk hS1 => kk r u H1 locs1 hq ?_ hS1)
  obtain ⟨⟨hP, hD⟩, hPo⟩ := hB
  rw [e9] at hP hPo
  have new : ∀ (j : Nat) (q : Nat × va_E) (x : Nat), u.1[j]? = some q → x < H.size → (∀ (i : Nat) (y : Nat × va_E), wc[i]? = some y → y.1 ≠ x) → q.1 ≠ x := by
    intro j q x hj hx hd e
    rcases hD.2 j q hj with ⟨k, e2, hk2⟩ | h
    · exact hd k _ hk2 e
    · omega
  refine ⟨hP, h2.kept (fun k q hkq => hk q.1 (vx_lt h2 hkq) ?_), hPo, hD.weaken (fun k q _ h => va_A_sub h4 hS.1 q.1 h), h5, h6, ?_, ?_, h9⟩
  · rintro ((⟨k2, e2, hk2⟩ | h) | h)
    · exact h7 k2 k _ q hk2 hkq rfl
    · exact absurd (vx_lt h2 hkq) (by omega)
    · exact h9 k q hkq h
  · intro i j x y hi hj
    exact new i x y.1 hi (vx_lt h2 hj) (fun i2 y2 h => h7 i2 j y2 y h hj)
  · intro i x hi
    exact new i x out hi hol (fun i2 y2 h => h8 i2 y2 h)
theorem x_sld (hexec : p.tables.exec = Jvm.exec) (hb : c.code = cc) {b L : Nat} {xs : Nat → Int32} (hX : va_X b L xs s s.heap) (hbl : b < s.heap.size) (hS : va_S (fun q => s.heap.size ≤ q) s.heap H locs) (j : Nat) (hj : j < L) (hL : L ≤ 2560) (hdg : decode cc pc = .ok (.iaload, 1))
    (kk : W p l e R s m args below meth c H locs cells slots Q (F0 m (pc + 1) ls (.int (xs j) :: rest))) : W p l e R s m args below meth c H locs cells slots Q (F0 m pc ls (.int (nI j) :: .ref b :: rest)) := by
  refine va_sld hexec hb hX hbl (A := fun q => s.heap.size ≤ q) (Nat.not_le.mpr hbl) hS (vp_in_nI hj (by omega)) hdg ?_
  rw [nI_clamp (by omega)]
  exact kk
end XL
