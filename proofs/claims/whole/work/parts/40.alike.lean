/-! class and reference answer alike -/
def okV (V : List VV) : Prop := ∀ (i : Nat) (x : VV), V[i]? = some x → x.1 ≤ 5 ∧ x.2.2.2 < 97
theorem okV.app {V : List VV} {x : VV} (h : okV V) (h1 : x.1 ≤ 5) (h2 : x.2.2.2 < 97) : okV (V ++ [x]) := by
  intro i y hy
  rcases V_app hy with ⟨q1, q2⟩ | ⟨rfl, rfl⟩
  · exact h i y q2
  · exact ⟨h1, h2⟩
theorem okV.set {V : List VV} {k : Nat} {x : VV} (h : okV V) (h1 : x.1 ≤ 5) (h2 : x.2.2.2 < 97) : okV (V.set k x) := by
  intro i y hy
  by_cases e : k = i
  · subst e
    have hl : k < V.length := by have := (List.getElem?_eq_some_iff.mp hy).1; rwa [List.length_set] at this
    rw [List.getElem?_set_self hl] at hy
    cases hy
    exact ⟨h1, h2⟩
  · rw [List.getElem?_set_ne e] at hy
    exact h i y hy
theorem okV.at {V : List VV} {k : Nat} (h : okV V) (hk : k < V.length) : (vAt V k).1 ≤ 5 := by
  obtain ⟨x, hx⟩ := V_get hk
  rw [vAt_of hx]
  exact (h k x hx).1
theorem okV.prod {s : VK} {f g : Nat → Nat} (h : okV s.1) : okV (prodS s f g).1.1 := by
  unfold prodS
  split
  · exact h
  · split
    · exact h
    · exact h.app (Nat.le_of_ble_eq_true rfl) (Nat.le_of_ble_eq_true rfl)
theorem pow_ok : ∀ (n : Nat) (s : VK) (cur base : Nat → Nat), (okV s.1 → okV (powS n s cur base).1.1) ∧ s.1.length ≤ (powS n s cur base).1.1.length ∧ (powS n s cur base).1.1.length ≤ s.1.length + n * cp base base ∧ s.2.length ≤ (powS n s cur base).1.2.length ∧ (powS n s cur base).1.2.length ≤ s.2.length + n * cp base base := by
  intro n
  induction n with
  | zero => intro s cur base; exact ⟨fun h => h, Nat.le_refl _, by rw [Nat.zero_mul]; exact Nat.le_refl _, Nat.le_refl _, by rw [Nat.zero_mul]; exact Nat.le_refl _⟩
  | succ n ih =>
    intro s cur base
    obtain ⟨h0, h1, h2, h3, h4⟩ := ih (prodS s cur base).1 (prodS s cur base).2 base
    obtain ⟨l1, l2⟩ := prodS_len s cur base
    have cr := cp_right cur base
    rw [powS_succ, Nat.add_mul, Nat.one_mul]
    exact ⟨fun h => h0 h.prod, by omega, by omega, by omega, by omega⟩
theorem mk_ok {kd n : Nat} {E : List EE} {V : List VV} {K : List KK} {x1 x2 x3 : Int32} (hw : wfd kd n x1 x2 x3) (h1 : kd ≠ 1) : (okV V → okV (mkSum kd E (V, K) x1 x2 x3).1.1) ∧ V.length ≤ (mkSum kd E (V, K) x1 x2 x3).1.1.length ∧ (mkSum kd E (V, K) x1 x2 x3).1.1.length ≤ V.length + nd kd E x1 x2 x3 ∧ K.length ≤ (mkSum kd E (V, K) x1 x2 x3).1.2.length ∧ (mkSum kd E (V, K) x1 x2 x3).1.2.length ≤ K.length + nd kd E x1 x2 x3 := by
  have hk := hw.1
  have hk9 : kd = 0 ∨ kd = 2 ∨ kd = 3 ∨ kd = 4 ∨ kd = 5 ∨ kd = 6 ∨ kd = 7 ∨ kd = 8 ∨ kd = 9 := by omega
  have pr : ∀ f g : Nat → Nat, (okV V → okV (prodS (V, K) f g).1.1) ∧ V.length ≤ (prodS (V, K) f g).1.1.length ∧ (prodS (V, K) f g).1.1.length ≤ V.length + cp f g ∧ K.length ≤ (prodS (V, K) f g).1.2.length ∧ (prodS (V, K) f g).1.2.length ≤ K.length + cp f g := by
    intro f g
    obtain ⟨l1, l2⟩ := prodS_len (V, K) f g
    have l1 : (prodS (V, K) f g).1.1.length = V.length + cp f g := l1
    have l2 : (prodS (V, K) f g).1.2.length = K.length + cp f g := l2
    exact ⟨fun h => okV.prod (s := (V, K)) h, by omega, by omega, by omega, by omega⟩
  rcases hk9 with rfl | rfl | rfl | rfl | rfl | rfl | rfl | rfl | rfl
  · have e : mkSum 0 E (V, K) x1 x2 x3 = ((V, K), cmb (rm x1) (unit 0) 0 (unit 0)) := by simp [mkSum]
    have e2 : nd 0 E x1 x2 x3 = 0 := by simp [nd]
    rw [e, e2]
    exact ⟨fun h => h, Nat.le_refl _, Nat.le_refl _, Nat.le_refl _, Nat.le_refl _⟩
  · have e : mkSum 2 E (V, K) x1 x2 x3 = ((V, K), cmb 1 (sE E (ix x1)) 1 (sE E (ix x2))) := by simp [mkSum]
    have e2 : nd 2 E x1 x2 x3 = 0 := by simp [nd]
    rw [e, e2]
    exact ⟨fun h => h, Nat.le_refl _, Nat.le_refl _, Nat.le_refl _, Nat.le_refl _⟩
  · have e : mkSum 3 E (V, K) x1 x2 x3 = ((V, K), (cmb 1 (sE E (ix x1)) 96 (sE E (ix x2)))) := by simp [mkSum]
    have e2 : nd 3 E x1 x2 x3 = 0 := by simp [nd]
    rw [e, e2]
    exact ⟨fun h => h, Nat.le_refl _, Nat.le_refl _, Nat.le_refl _, Nat.le_refl _⟩
  · have e : mkSum 4 E (V, K) x1 x2 x3 = prodS (V, K) (sE E (ix x1)) (sE E (ix x2)) := by simp [mkSum]
    have e2 : nd 4 E x1 x2 x3 = cp (sE E (ix x1)) (sE E (ix x2)) := by simp [nd]
    rw [e, e2]
    exact pr _ _
  · have e : mkSum 5 E (V, K) x1 x2 x3 = shareS (V, K) (sE E (ix x1)) (sE E (ix x2)) := by simp [mkSum]
    have e2 : nd 5 E x1 x2 x3 = 2 := by simp [nd]
    rw [e, e2]
    unfold shareS
    exact ⟨fun h => (okV.app h (Nat.le_of_ble_eq_true rfl) (Nat.le_of_ble_eq_true rfl)).app (Nat.le_of_ble_eq_true rfl) (Nat.le_of_ble_eq_true rfl), by simp, by simp, by simp, by simp⟩
  · have e : mkSum 6 E (V, K) x1 x2 x3 = sameS (V, K) (cmb 1 (sE E (ix x1)) 96 (sE E (ix x2))) := by simp [mkSum]
    have e2 : nd 6 E x1 x2 x3 = 2 := by simp [nd]
    rw [e, e2]
    unfold sameS
    exact ⟨fun h => (okV.app h (Nat.le_of_ble_eq_true rfl) (Nat.le_of_ble_eq_true rfl)).app (Nat.le_of_ble_eq_true rfl) (Nat.le_of_ble_eq_true rfl), by simp, by simp, by simp, by simp⟩
  · have e : mkSum 7 E (V, K) x1 x2 x3 = ((prodS (V, K) (sE E (ix x3)) (cmb 1 (sE E (ix x1)) 96 (sE E (ix x2)))).1, cmb 1 (prodS (V, K) (sE E (ix x3)) (cmb 1 (sE E (ix x1)) 96 (sE E (ix x2)))).2 1 (sE E (ix x2))) := by simp [mkSum]
    have e2 : nd 7 E x1 x2 x3 = cp (sE E (ix x3)) (cmb 1 (sE E (ix x1)) 96 (sE E (ix x2))) := by simp [nd]
    rw [e, e2]
    exact pr _ _
  · have e : mkSum 8 E (V, K) x1 x2 x3 = ((V, K), cmb 1 (unit 0) 96 (sE E (ix x1))) := by simp [mkSum]
    have e2 : nd 8 E x1 x2 x3 = 0 := by simp [nd]
    rw [e, e2]
    exact ⟨fun h => h, Nat.le_refl _, Nat.le_refl _, Nat.le_refl _, Nat.le_refl _⟩
  · have e : mkSum 9 E (V, K) x1 x2 x3 = powS (ix x2 - 1) (V, K) (sE E (ix x1)) (sE E (ix x1)) := by simp [mkSum]
    have e2 : nd 9 E x1 x2 x3 = (ix x2 - 1) * cp (sE E (ix x1)) (sE E (ix x1)) := by simp [nd]
    rw [e, e2]
    exact pow_ok (ix x2 - 1) (V, K) (sE E (ix x1)) (sE E (ix x1))
theorem okI_ex {kd : Nat} {V : List VV} {E : List EE} {K : List KK} {inp wV wC : Nat} {w : Nat → Nat} {st' : MS} {x1 x2 x3 : Int32} (hI : okI V E K inp wV wC) (hw : wfd kd E.length x1 x2 x3) (hr : room kd V E K x1 x2 x3) (hM : MRel st' (exS kd V E K inp x1 x2 x3).1 (exS kd V E K inp x1 x2 x3).2.1 (exS kd V E K inp x1 x2 x3).2.2.1 (exS kd V E K inp x1 x2 x3).2.2.2 w wV wC) : okI (exS kd V E K inp x1 x2 x3).1 (exS kd V E K inp x1 x2 x3).2.1 (exS kd V E K inp x1 x2 x3).2.2.1 (exS kd V E K inp x1 x2 x3).2.2.2 wV wC := by
  obtain ⟨i1, i2, i3, i4, i5, i6, i7, i8, i9⟩ := hI
  obtain ⟨r1, r2, r3⟩ := hr
  have hin := hM.2.2.1.2.2.2
  have hle := ct1_le st'.Kd (exS kd V E K inp x1 x2 x3).2.1.length
  by_cases k1 : kd = 1
  · subst k1
    have l1 : (V ++ [((1 : Nat), zr, zr, (0 : Nat))]).length = V.length + 1 := by simp
    have l2 : (E ++ [(unit V.length, V.length)]).length = E.length + 1 := by simp
    have l3 : (exS 1 V E K inp x1 x2 x3).2.1.length = E.length + 1 := l2
    have r2 : V.length + 1 ≤ 60 := r2
    refine ⟨by show 1 ≤ (V ++ [((1 : Nat), zr, zr, (0 : Nat))]).length; omega, by show (V ++ [((1 : Nat), zr, zr, (0 : Nat))]).length ≤ 60; omega, by omega, i4, by omega, by show wV ≤ (V ++ [((1 : Nat), zr, zr, (0 : Nat))]).length; omega, i7, okV.app i8 (Nat.le_of_ble_eq_true rfl) (Nat.le_of_ble_eq_true rfl), ?_⟩
    intro i x hx
    show x.2 < (V ++ [((1 : Nat), zr, zr, (0 : Nat))]).length
    rcases V_app hx with ⟨q1, q2⟩ | ⟨rfl, rfl⟩
    · have := i9 i x q2; omega
    · show V.length < _; omega
  · have e6 : exS kd V E K inp x1 x2 x3 = ((mkSum kd E (V, K) x1 x2 x3).1.1, E ++ [((mkSum kd E (V, K) x1 x2 x3).2, 0)], (mkSum kd E (V, K) x1 x2 x3).1.2, inp) := by unfold exS; rw [if_neg k1]
    obtain ⟨m0, m1, m2, m3, m4⟩ := mk_ok (E := E) (V := V) (K := K) hw k1
    rw [if_neg k1] at r2
    rw [e6] at hin hle ⊢
    have l2 : (E ++ [((mkSum kd E (V, K) x1 x2 x3).2, 0)]).length = E.length + 1 := by simp
    refine ⟨by show 1 ≤ (mkSum kd E (V, K) x1 x2 x3).1.1.length; omega, by show (mkSum kd E (V, K) x1 x2 x3).1.1.length ≤ 60; omega, by show (E ++ [((mkSum kd E (V, K) x1 x2 x3).2, 0)]).length ≤ 60; omega, by show (mkSum kd E (V, K) x1 x2 x3).1.2.length ≤ 80; omega, i5, by show wV ≤ (mkSum kd E (V, K) x1 x2 x3).1.1.length; omega, by show wC ≤ (mkSum kd E (V, K) x1 x2 x3).1.2.length; omega, m0 i8, ?_⟩
    intro i x hx
    show x.2 < (mkSum kd E (V, K) x1 x2 x3).1.1.length
    rcases V_app hx with ⟨q1, q2⟩ | ⟨rfl, rfl⟩
    · have := i9 i x q2; omega
    · show 0 < _; omega
theorem J3 {X N0 N1 N2 M0 M1 M2 : Prop} (hw : N0 ∨ N1 ∨ N2) (hm : M0 ∨ M1 ∨ M2) (d0 : N0 → M0 → X) (d1 : N1 → M1 → X) (d2 : N2 → M2 → X) (a : N0 → M1 → False) (b : N0 → M2 → False) (c : N1 → M0 → False) (d : N1 → M2 → False) (e : N2 → M0 → False) (f : N2 → M1 → False) : X := by
  rcases hw with h | h | h <;> rcases hm with q | q | q
  · exact d0 h q
  · exact (a h q).elim
  · exact (b h q).elim
  · exact (c h q).elim
  · exact d1 h q
  · exact (d h q).elim
  · exact (e h q).elim
  · exact (f h q).elim
  · exact d2 h q
theorem J2 {X N0 N1 M0 M1 : Prop} (hw : N0 ∨ N1) (hm : M0 ∨ M1) (d0 : N0 → M0 → X) (d1 : N1 → M1 → X) (a : N0 → M1 → False) (c : N1 → M0 → False) : X := by
  rcases hw with h | h <;> rcases hm with q | q
  · exact d0 h q
  · exact (a h q).elim
  · exact (c h q).elim
  · exact d1 h q
theorem nI_inj {a b : Nat} (ha : a < 2 ^ 31) (hb : b < 2 ^ 31) (h : nI a = nI b) : a = b := (nI_eq ha hb).mp h
abbrev Jst (G : xG) (o z u lv le lk : Nat) (w9 : va_W) (st : MS) : Prop := ∃ (V : List VV) (E : List EE) (K : List KK) (inp : Nat) (w d : Nat → Nat) (wV wC : Nat), CCs G w9 o z u lv le lk V E K inp w d wV wC ∧ okI V E K inp wV wC ∧ MRel st V E K inp w wV wC

theorem J_expression {G : xG} {st' : MS} {u9 : va_W × (Nat → Int64)} {r5 r6 : Int32} {o z u lv le lk : Nat} {V : List VV} {E : List EE} {K : List KK} {inp : Nat} {w d : Nat → Nat} {wV wC : Nat} {x0 x1 x2 x3 : Int32} (hI : okI V E K inp wV wC) (hw : (r5 = nI 0 ∧ ∃ v9 : Int32, u9.2 0 = v9.toInt64 ∧ v9 = nI E.length ∧ ∃ kq, x0 = nI kq ∧ wfd kq E.length x1 x2 x3 ∧ room kq V E K x1 x2 x3 ∧ CCs G u9.1 o z u lv le lk (exS kq V E K inp x1 x2 x3).1 (exS kq V E K inp x1 x2 x3).2.1 (exS kq V E K inp x1 x2 x3).2.2.1 (exS kq V E K inp x1 x2 x3).2.2.2 w d wV wC) ∨ (r5 = nI 1 ∧ CCs G u9.1 o z u lv le lk V E K inp w d wV wC ∧ (¬ wfx E.length x0 x1 x2 x3)) ∨ (r5 = nI 2 ∧ CCs G u9.1 o z u lv le lk V E K inp w d wV wC ∧ (∃ kq, x0 = nI kq ∧ wfd kq E.length x1 x2 x3 ∧ ¬ room kq V E K x1 x2 x3))) (hm : (st'.th = 0 ∧ r6 = nI E.length ∧ ∃ kq, x0 = nI kq ∧ wfd kq E.length x1 x2 x3 ∧ room kq V E K x1 x2 x3 ∧ MRel st' (exS kq V E K inp x1 x2 x3).1 (exS kq V E K inp x1 x2 x3).2.1 (exS kq V E K inp x1 x2 x3).2.2.1 (exS kq V E K inp x1 x2 x3).2.2.2 w wV wC) ∨ (st'.th = 1 ∧ (¬ wfx E.length x0 x1 x2 x3) ∧ MRel st' V E K inp w wV wC) ∨ (st'.th = 2 ∧ (∃ kq, x0 = nI kq ∧ wfd kq E.length x1 x2 x3 ∧ ¬ room kq V E K x1 x2 x3) ∧ MRel st' V E K inp w wV wC)) : Jst G o z u lv le lk u9.1 st' ∧ r5 = nI st'.th ∧ st'.th ≤ 2 ∧ (st'.th = 0 → u9.2 0 = r6.toInt64) := by
  obtain ⟨i1, i2, i3, i4, i5, i6, i7, i8, i9⟩ := id hI
  exact J3 hw hm (fun ⟨e1, v9, hv, ev, kq, ek, hf, hr, hC⟩ ⟨t1, er, kq2, ek2, hf2, _, hM⟩ => by
    have k1 := hf.1
    have k2 := hf2.1
    have e9 : kq = kq2 := nI_inj (by omega) (by omega) (ek.symm.trans ek2)
    subst e9
    exact ⟨⟨_, _, _, _, w, d, wV, wC, hC, okI_ex hI hf hr hM, hM⟩, by rw [e1, t1], by rw [t1]; decide, fun _ => by rw [hv, ev, er]⟩) (fun ⟨e1, hC, _⟩ ⟨t1, _, hM⟩ => ⟨⟨V, E, K, inp, w, d, wV, wC, hC, hI, hM⟩, by rw [e1, t1], by rw [t1]; decide, fun q => absurd (t1.symm.trans q) (by decide)⟩) (fun ⟨e1, hC, _⟩ ⟨t1, _, hM⟩ => ⟨⟨V, E, K, inp, w, d, wV, wC, hC, hI, hM⟩, by rw [e1, t1], by rw [t1]; decide, fun q => absurd (t1.symm.trans q) (by decide)⟩) (fun ⟨_, _, _, _, kq, ek, hf, _⟩ ⟨_, c, _⟩ => c ⟨kq, ek, hf⟩) (fun ⟨_, _, _, _, kq, ek, hf, hr, _⟩ ⟨_, ⟨kq2, ek2, hf2, c⟩, _⟩ => by
    have k1 := hf.1
    have k2 := hf2.1
    have e9 : kq = kq2 := nI_inj (by omega) (by omega) (ek.symm.trans ek2)
    subst e9
    exact c hr) (fun ⟨_, _, c⟩ ⟨_, _, kq, ek, hf, _⟩ => c ⟨kq, ek, hf⟩) (fun ⟨_, _, c⟩ ⟨_, ⟨kq, ek, hf, _⟩, _⟩ => c ⟨kq, ek, hf⟩) (fun ⟨_, _, kq2, ek2, hf2, c⟩ ⟨_, _, kq, ek, hf, hr, _⟩ => by
    have k1 := hf.1
    have k2 := hf2.1
    have e9 : kq = kq2 := nI_inj (by omega) (by omega) (ek.symm.trans ek2)
    subst e9
    exact c hr) (fun ⟨_, _, kq, ek, hf, _⟩ ⟨_, c, _⟩ => c ⟨kq, ek, hf⟩)

theorem J_claim {G : xG} {st' : MS} {u9 : va_W × (Nat → Int64)} {r5 r6 : Int32} {o z u lv le lk : Nat} {V : List VV} {E : List EE} {K : List KK} {inp : Nat} {w d : Nat → Nat} {wV wC : Nat} {x0 x1 x2 : Int32} (hI : okI V E K inp wV wC) (hw : (r5 = nI 0 ∧ ∃ v9 : Int32, u9.2 0 = v9.toInt64 ∧ v9 = nI K.length ∧ clw E.length x0 x1 x2 ∧ K.length < 80 ∧ CCs G u9.1 o z u lv le lk V E (K ++ [clK E x0 x1 x2]) inp w d wV wC) ∨ (r5 = nI 1 ∧ CCs G u9.1 o z u lv le lk V E K inp w d wV wC ∧ (¬ clw E.length x0 x1 x2)) ∨ (r5 = nI 2 ∧ CCs G u9.1 o z u lv le lk V E K inp w d wV wC ∧ (clw E.length x0 x1 x2 ∧ ¬ K.length < 80))) (hm : (st'.th = 0 ∧ r6 = nI K.length ∧ clw E.length x0 x1 x2 ∧ K.length < 80 ∧ MRel st' V E (K ++ [clK E x0 x1 x2]) inp w wV wC) ∨ (st'.th = 1 ∧ (¬ clw E.length x0 x1 x2) ∧ MRel st' V E K inp w wV wC) ∨ (st'.th = 2 ∧ (clw E.length x0 x1 x2 ∧ ¬ K.length < 80) ∧ MRel st' V E K inp w wV wC)) : Jst G o z u lv le lk u9.1 st' ∧ r5 = nI st'.th ∧ st'.th ≤ 2 ∧ (st'.th = 0 → u9.2 0 = r6.toInt64) := by
  obtain ⟨i1, i2, i3, i4, i5, i6, i7, i8, i9⟩ := id hI
  exact J3 hw hm (fun ⟨e1, v9, hv, ev, hc, hk, hC⟩ ⟨t1, er, _, _, hM⟩ => by
    have l1 : (K ++ [clK E x0 x1 x2]).length = K.length + 1 := by simp
    exact ⟨⟨_, _, _, _, w, d, wV, wC, hC, ⟨i1, i2, i3, by omega, i5, i6, by omega, i8, i9⟩, hM⟩, by rw [e1, t1], by rw [t1]; decide, fun _ => by rw [hv, ev, er]⟩) (fun ⟨e1, hC, _⟩ ⟨t1, _, hM⟩ => ⟨⟨V, E, K, inp, w, d, wV, wC, hC, hI, hM⟩, by rw [e1, t1], by rw [t1]; decide, fun q => absurd (t1.symm.trans q) (by decide)⟩) (fun ⟨e1, hC, _⟩ ⟨t1, _, hM⟩ => ⟨⟨V, E, K, inp, w, d, wV, wC, hC, hI, hM⟩, by rw [e1, t1], by rw [t1]; decide, fun q => absurd (t1.symm.trans q) (by decide)⟩) (fun ⟨_, _, _, _, hc, _⟩ ⟨_, c, _⟩ => c hc) (fun ⟨_, _, _, _, _, hk, _⟩ ⟨_, ⟨_, c⟩, _⟩ => c hk) (fun ⟨_, _, c⟩ ⟨_, _, hc, _⟩ => c hc) (fun ⟨_, _, c⟩ ⟨_, ⟨hc, _⟩, _⟩ => c hc) (fun ⟨_, _, _, c⟩ ⟨_, _, _, hk, _⟩ => c hk) (fun ⟨_, _, hc, _⟩ ⟨_, c, _⟩ => c hc)

theorem J_give {G : xG} {st' : MS} {u9 : va_W × (Nat → Int64)} {r5 r6 : Int32} {o z u lv le lk : Nat} {V : List VV} {E : List EE} {K : List KK} {inp : Nat} {w d : Nat → Nat} {wV wC : Nat} {x1 x2 : Int32} (hI : okI V E K inp wV wC) (hw : (r5 = nI 0 ∧ ∃ v9 : Int32, u9.2 0 = v9.toInt64 ∧ ∃ j, j < E.length ∧ x1 = nI j ∧ eI E j ≠ 0 ∧ v9 = nI (vAt V (eI E j)).2.2.2 ∧ CCs G u9.1 o z u lv le lk (V.set (eI E j) (gv (vAt V (eI E j)) (rm x2))) E K inp w d wV wC) ∨ (r5 = nI 1 ∧ CCs G u9.1 o z u lv le lk V E K inp w d wV wC ∧ (¬ md E.length x1)) ∨ (r5 = nI 2 ∧ CCs G u9.1 o z u lv le lk V E K inp w d wV wC ∧ (∃ j, j < E.length ∧ x1 = nI j ∧ eI E j = 0))) (hm : (st'.th = 0 ∧ ∃ j, j < E.length ∧ x1 = nI j ∧ eI E j ≠ 0 ∧ r6 = nI (vAt V (eI E j)).2.2.2 ∧ MRel st' (V.set (eI E j) (gv (vAt V (eI E j)) (rm x2))) E K inp w wV wC) ∨ (st'.th = 1 ∧ (¬ md E.length x1) ∧ MRel st' V E K inp w wV wC) ∨ (st'.th = 2 ∧ (∃ j, j < E.length ∧ x1 = nI j ∧ eI E j = 0) ∧ MRel st' V E K inp w wV wC)) : Jst G o z u lv le lk u9.1 st' ∧ r5 = nI st'.th ∧ st'.th ≤ 2 ∧ (st'.th = 0 → u9.2 0 = r6.toInt64) := by
  obtain ⟨i1, i2, i3, i4, i5, i6, i7, i8, i9⟩ := id hI
  exact J3 hw hm (fun ⟨e1, v9, hv, j, hj, ej, hn, ev, hC⟩ ⟨t1, j2, hj2, ej2, _, er, hM⟩ => by
    have e9 : j = j2 := nI_inj (by omega) (by omega) (ej.symm.trans ej2)
    subst e9
    have ls9 : (V.set (eI E j) (gv (vAt V (eI E j)) (rm x2))).length = V.length := List.length_set
    have lt9 : eI E j < V.length := by
      obtain ⟨y, hy⟩ := V_get hj
      rw [eI_of hy]
      exact i9 j y hy
    exact ⟨⟨_, _, _, _, w, d, wV, wC, hC, ⟨by omega, by omega, i3, i4, i5, by omega, i7, okV.set i8 (okV.at i8 lt9) (rm_lt x2), fun i x hx => by rw [ls9]; exact i9 i x hx⟩, hM⟩, by rw [e1, t1], by rw [t1]; decide, fun _ => by rw [hv, ev, er]⟩) (fun ⟨e1, hC, _⟩ ⟨t1, _, hM⟩ => ⟨⟨V, E, K, inp, w, d, wV, wC, hC, hI, hM⟩, by rw [e1, t1], by rw [t1]; decide, fun q => absurd (t1.symm.trans q) (by decide)⟩) (fun ⟨e1, hC, _⟩ ⟨t1, _, hM⟩ => ⟨⟨V, E, K, inp, w, d, wV, wC, hC, hI, hM⟩, by rw [e1, t1], by rw [t1]; decide, fun q => absurd (t1.symm.trans q) (by decide)⟩) (fun ⟨_, _, _, j, hj, ej, _⟩ ⟨_, c, _⟩ => c ⟨j, hj, ej⟩) (fun ⟨_, _, _, j, hj, ej, hn, _⟩ ⟨_, ⟨j2, hj2, ej2, c⟩, _⟩ => by
    have e9 : j = j2 := nI_inj (by omega) (by omega) (ej.symm.trans ej2)
    subst e9
    exact hn c) (fun ⟨_, _, c⟩ ⟨_, j, hj, ej, _⟩ => c ⟨j, hj, ej⟩) (fun ⟨_, _, c⟩ ⟨_, ⟨j, hj, ej, _⟩, _⟩ => c ⟨j, hj, ej⟩) (fun ⟨_, _, j2, hj2, ej2, c⟩ ⟨_, j, hj, ej, hn, _⟩ => by
    have e9 : j = j2 := nI_inj (by omega) (by omega) (ej.symm.trans ej2)
    subst e9
    exact hn c) (fun ⟨_, _, j, hj, ej, _⟩ ⟨_, c, _⟩ => c ⟨j, hj, ej⟩)

theorem J_solve {G : xG} {st' : MS} {u9 : va_W × (Nat → Int64)} {r5 r6 : Int32} {o z u lv le lk : Nat} {V : List VV} {E : List EE} {K : List KK} {inp : Nat} {w d : Nat → Nat} {wV wC : Nat} (hI : okI V E K inp wV wC) (hw : (r5 = nI 0 ∧ ∃ v9 : Int32, u9.2 0 = v9.toInt64 ∧ ∃ d' : Nat → Nat, fil V V.length 0 d = (true, d') ∧ v9 = nI (brk K d' K.length) ∧ CCs G u9.1 o z u lv le lk V E K inp d' w V.length K.length) ∨ (r5 = nI 1 ∧ ∃ d' : Nat → Nat, fil V V.length 0 d = (false, d') ∧ CCs G u9.1 o z u lv le lk V E K inp w d' wV wC)) (hm : (st'.th = 0 ∧ ∃ d' : Nat → Nat, fil V V.length 0 d = (true, d') ∧ r6 = nI (brk K d' K.length) ∧ MRel st' V E K inp d' V.length K.length) ∨ (st'.th = 1 ∧ (∃ d' : Nat → Nat, fil V V.length 0 d = (false, d')) ∧ MRel st' V E K inp w wV wC)) : Jst G o z u lv le lk u9.1 st' ∧ r5 = nI st'.th ∧ st'.th ≤ 2 ∧ (st'.th = 0 → u9.2 0 = r6.toInt64) := by
  obtain ⟨i1, i2, i3, i4, i5, i6, i7, i8, i9⟩ := id hI
  exact J2 hw hm (fun ⟨e1, v9, hv, d1, hf, ev, hC⟩ ⟨t1, d2, hf2, er, hM⟩ => by
    have e9 : d1 = d2 := congrArg Prod.snd (hf.symm.trans hf2)
    subst e9
    exact ⟨⟨_, _, _, _, _, _, _, _, hC, ⟨i1, i2, i3, i4, i5, Nat.le_refl _, Nat.le_refl _, i8, i9⟩, hM⟩, by rw [e1, t1], by rw [t1]; decide, fun _ => by rw [hv, ev, er]⟩) (fun ⟨e1, d1, _, hC⟩ ⟨t1, _, hM⟩ => ⟨⟨V, E, K, inp, w, d1, wV, wC, hC, hI, hM⟩, by rw [e1, t1], by rw [t1]; decide, fun q => absurd (t1.symm.trans q) (by decide)⟩) (fun ⟨_, _, _, d1, hf, _⟩ ⟨_, ⟨d2, hf2⟩, _⟩ => by have := congrArg Prod.fst (hf.symm.trans hf2); cases this) (fun ⟨_, d1, hf, _⟩ ⟨_, d2, hf2, _⟩ => by have := congrArg Prod.fst (hf.symm.trans hf2); cases this)

theorem J_value {G : xG} {st' : MS} {u9 : va_W × (Nat → Int64)} {r5 r6 : Int32} {o z u lv le lk : Nat} {V : List VV} {E : List EE} {K : List KK} {inp : Nat} {w d : Nat → Nat} {wV wC : Nat} {x1 : Int32} (hI : okI V E K inp wV wC) (hw : (r5 = nI 0 ∧ ∃ v9 : Int32, u9.2 0 = v9.toInt64 ∧ CCs G u9.1 o z u lv le lk V E K inp w d wV wC ∧ ∃ j, j < E.length ∧ x1 = nI j ∧ 0 < wV ∧ lastV (sE E j) 59 < wV ∧ v9 = nI (vl (sE E j) w)) ∨ (r5 = nI 1 ∧ CCs G u9.1 o z u lv le lk V E K inp w d wV wC ∧ (¬ md E.length x1)) ∨ (r5 = nI 2 ∧ CCs G u9.1 o z u lv le lk V E K inp w d wV wC ∧ (∃ j, j < E.length ∧ x1 = nI j ∧ ¬ (0 < wV ∧ lastV (sE E j) 59 < wV)))) (hm : (st'.th = 0 ∧ (∃ j, j < E.length ∧ x1 = nI j ∧ 0 < wV ∧ lastV (sE E j) 59 < wV ∧ r6 = nI (vl (sE E j) w)) ∧ MRel st' V E K inp w wV wC) ∨ (st'.th = 1 ∧ (¬ md E.length x1) ∧ MRel st' V E K inp w wV wC) ∨ (st'.th = 2 ∧ (∃ j, j < E.length ∧ x1 = nI j ∧ ¬ (0 < wV ∧ lastV (sE E j) 59 < wV)) ∧ MRel st' V E K inp w wV wC)) : Jst G o z u lv le lk u9.1 st' ∧ r5 = nI st'.th ∧ st'.th ≤ 2 ∧ (st'.th = 0 → u9.2 0 = r6.toInt64) := by
  obtain ⟨i1, i2, i3, i4, i5, i6, i7, i8, i9⟩ := id hI
  exact J3 hw hm (fun ⟨e1, v9, hv, hC, j, hj, ej, _, _, ev⟩ ⟨t1, ⟨j2, hj2, ej2, _, _, er⟩, hM⟩ => by
    have e9 : j = j2 := nI_inj (by omega) (by omega) (ej.symm.trans ej2)
    subst e9
    exact ⟨⟨V, E, K, inp, w, d, wV, wC, hC, hI, hM⟩, by rw [e1, t1], by rw [t1]; decide, fun _ => by rw [hv, ev, er]⟩) (fun ⟨e1, hC, _⟩ ⟨t1, _, hM⟩ => ⟨⟨V, E, K, inp, w, d, wV, wC, hC, hI, hM⟩, by rw [e1, t1], by rw [t1]; decide, fun q => absurd (t1.symm.trans q) (by decide)⟩) (fun ⟨e1, hC, _⟩ ⟨t1, _, hM⟩ => ⟨⟨V, E, K, inp, w, d, wV, wC, hC, hI, hM⟩, by rw [e1, t1], by rw [t1]; decide, fun q => absurd (t1.symm.trans q) (by decide)⟩) (fun ⟨_, _, _, _, j, hj, ej, _⟩ ⟨_, c, _⟩ => c ⟨j, hj, ej⟩) (fun ⟨_, _, _, _, j, hj, ej, h1, h2, _⟩ ⟨_, ⟨j2, hj2, ej2, c⟩, _⟩ => by
    have e9 : j = j2 := nI_inj (by omega) (by omega) (ej.symm.trans ej2)
    subst e9
    exact c ⟨h1, h2⟩) (fun ⟨_, _, c⟩ ⟨_, ⟨j, hj, ej, _⟩, _⟩ => c ⟨j, hj, ej⟩) (fun ⟨_, _, c⟩ ⟨_, ⟨j, hj, ej, _⟩, _⟩ => c ⟨j, hj, ej⟩) (fun ⟨_, _, j2, hj2, ej2, c⟩ ⟨_, ⟨j, hj, ej, h1, h2, _⟩, _⟩ => by
    have e9 : j = j2 := nI_inj (by omega) (by omega) (ej.symm.trans ej2)
    subst e9
    exact c ⟨h1, h2⟩) (fun ⟨_, _, j, hj, ej, _⟩ ⟨_, c, _⟩ => c ⟨j, hj, ej⟩)

theorem J_tamper {G : xG} {st' : MS} {u9 : va_W × (Nat → Int64)} {r5 r6 : Int32} {o z u lv le lk : Nat} {V : List VV} {E : List EE} {K : List KK} {inp : Nat} {w d : Nat → Nat} {wV wC : Nat} {x1 x2 : Int32} (hI : okI V E K inp wV wC) (hw : (r5 = nI 0 ∧ ∃ v9 : Int32, u9.2 0 = v9.toInt64 ∧ 0 < wV ∧ ∃ j, 1 ≤ j ∧ j < wV ∧ x1 = nI j ∧ v9 = nI (w j) ∧ CCs G u9.1 o z u lv le lk V E K inp (va_up w j (rm x2)) d wV wC) ∨ (r5 = nI 1 ∧ CCs G u9.1 o z u lv le lk V E K inp w d wV wC ∧ (wV = 0)) ∨ (r5 = nI 2 ∧ CCs G u9.1 o z u lv le lk V E K inp w d wV wC ∧ (0 < wV ∧ ¬ ∃ j, 1 ≤ j ∧ j < wV ∧ x1 = nI j))) (hm : (st'.th = 0 ∧ 0 < wV ∧ ∃ j, 1 ≤ j ∧ j < wV ∧ x1 = nI j ∧ r6 = nI (w j) ∧ MRel st' V E K inp (va_up w j (rm x2)) wV wC) ∨ (st'.th = 1 ∧ (wV = 0) ∧ MRel st' V E K inp w wV wC) ∨ (st'.th = 2 ∧ (0 < wV ∧ ¬ ∃ j, 1 ≤ j ∧ j < wV ∧ x1 = nI j) ∧ MRel st' V E K inp w wV wC)) : Jst G o z u lv le lk u9.1 st' ∧ r5 = nI st'.th ∧ st'.th ≤ 2 ∧ (st'.th = 0 → u9.2 0 = r6.toInt64) := by
  obtain ⟨i1, i2, i3, i4, i5, i6, i7, i8, i9⟩ := id hI
  exact J3 hw hm (fun ⟨e1, v9, hv, _, j, h1, hj, ej, ev, hC⟩ ⟨t1, _, j2, _, hj2, ej2, er, hM⟩ => by
    have e9 : j = j2 := nI_inj (by omega) (by omega) (ej.symm.trans ej2)
    subst e9
    exact ⟨⟨_, _, _, _, _, _, _, _, hC, hI, hM⟩, by rw [e1, t1], by rw [t1]; decide, fun _ => by rw [hv, ev, er]⟩) (fun ⟨e1, hC, _⟩ ⟨t1, _, hM⟩ => ⟨⟨V, E, K, inp, w, d, wV, wC, hC, hI, hM⟩, by rw [e1, t1], by rw [t1]; decide, fun q => absurd (t1.symm.trans q) (by decide)⟩) (fun ⟨e1, hC, _⟩ ⟨t1, _, hM⟩ => ⟨⟨V, E, K, inp, w, d, wV, wC, hC, hI, hM⟩, by rw [e1, t1], by rw [t1]; decide, fun q => absurd (t1.symm.trans q) (by decide)⟩) (fun ⟨_, _, _, h0, _⟩ ⟨_, c, _⟩ => by omega) (fun ⟨_, _, _, _, j, h1, hj, ej, _⟩ ⟨_, ⟨_, c⟩, _⟩ => c ⟨j, h1, hj, ej⟩) (fun ⟨_, _, c⟩ ⟨_, h0, _⟩ => by omega) (fun ⟨_, _, c⟩ ⟨_, ⟨h0, _⟩, _⟩ => by omega) (fun ⟨_, _, _, c⟩ ⟨_, _, j, h1, hj, ej, _⟩ => c ⟨j, h1, hj, ej⟩) (fun ⟨_, _, h0, _⟩ ⟨_, c, _⟩ => by omega)

theorem J_broken {G : xG} {st' : MS} {u9 : va_W × (Nat → Int64)} {r5 r6 : Int32} {o z u lv le lk : Nat} {V : List VV} {E : List EE} {K : List KK} {inp : Nat} {w d : Nat → Nat} {wV wC : Nat} (hI : okI V E K inp wV wC) (hw : (r5 = nI 0 ∧ ∃ v9 : Int32, u9.2 0 = v9.toInt64 ∧ CCs G u9.1 o z u lv le lk V E K inp w d wV wC ∧ 0 < wV ∧ v9 = nI (brk K w wC)) ∨ (r5 = nI 1 ∧ CCs G u9.1 o z u lv le lk V E K inp w d wV wC ∧ (wV = 0))) (hm : (st'.th = 0 ∧ 0 < wV ∧ r6 = nI (brk K w wC) ∧ MRel st' V E K inp w wV wC) ∨ (st'.th = 1 ∧ (wV = 0) ∧ MRel st' V E K inp w wV wC)) : Jst G o z u lv le lk u9.1 st' ∧ r5 = nI st'.th ∧ st'.th ≤ 2 ∧ (st'.th = 0 → u9.2 0 = r6.toInt64) := by
  obtain ⟨i1, i2, i3, i4, i5, i6, i7, i8, i9⟩ := id hI
  exact J2 hw hm (fun ⟨e1, v9, hv, hC, _, ev⟩ ⟨t1, _, er, hM⟩ => ⟨⟨V, E, K, inp, w, d, wV, wC, hC, hI, hM⟩, by rw [e1, t1], by rw [t1]; decide, fun _ => by rw [hv, ev, er]⟩) (fun ⟨e1, hC, _⟩ ⟨t1, _, hM⟩ => ⟨⟨V, E, K, inp, w, d, wV, wC, hC, hI, hM⟩, by rw [e1, t1], by rw [t1]; decide, fun q => absurd (t1.symm.trans q) (by decide)⟩) (fun ⟨_, _, _, _, h0, _⟩ ⟨_, c, _⟩ => by omega) (fun ⟨_, _, c⟩ ⟨_, h0, _⟩ => by omega)

theorem J_first {G : xG} {st' : MS} {u9 : va_W × (Nat → Int64)} {r5 r6 : Int32} {o z u lv le lk : Nat} {V : List VV} {E : List EE} {K : List KK} {inp : Nat} {w d : Nat → Nat} {wV wC : Nat} (hI : okI V E K inp wV wC) (hw : (r5 = nI 0 ∧ ∃ v9 : Int32, u9.2 0 = v9.toInt64 ∧ CCs G u9.1 o z u lv le lk V E K inp w d wV wC ∧ 0 < wV ∧ ∃ j, j < wC ∧ (∀ i, i < j → hld (kAt K i) w) ∧ ¬ hld (kAt K j) w ∧ v9 = nI j) ∨ (r5 = nI 1 ∧ CCs G u9.1 o z u lv le lk V E K inp w d wV wC ∧ (wV = 0)) ∨ (r5 = nI 2 ∧ CCs G u9.1 o z u lv le lk V E K inp w d wV wC ∧ (0 < wV ∧ ∀ i, i < wC → hld (kAt K i) w))) (hm : (st'.th = 0 ∧ (0 < wV ∧ ∃ j, j < wC ∧ (∀ i, i < j → hld (kAt K i) w) ∧ ¬ hld (kAt K j) w ∧ r6 = nI j) ∧ MRel st' V E K inp w wV wC) ∨ (st'.th = 1 ∧ (wV = 0) ∧ MRel st' V E K inp w wV wC) ∨ (st'.th = 2 ∧ (0 < wV ∧ ∀ i, i < wC → hld (kAt K i) w) ∧ MRel st' V E K inp w wV wC)) : Jst G o z u lv le lk u9.1 st' ∧ r5 = nI st'.th ∧ st'.th ≤ 2 ∧ (st'.th = 0 → u9.2 0 = r6.toInt64) := by
  obtain ⟨i1, i2, i3, i4, i5, i6, i7, i8, i9⟩ := id hI
  exact J3 hw hm (fun ⟨e1, v9, hv, hC, _, j, hj, ha, hn, ev⟩ ⟨t1, ⟨_, j2, hj2, ha2, hn2, er⟩, hM⟩ => by
    have e9 : j = j2 := by
      rcases Nat.lt_trichotomy j j2 with q | q | q
      · exact absurd (ha2 j q) hn
      · exact q
      · exact absurd (ha j2 q) hn2
    subst e9
    exact ⟨⟨V, E, K, inp, w, d, wV, wC, hC, hI, hM⟩, by rw [e1, t1], by rw [t1]; decide, fun _ => by rw [hv, ev, er]⟩) (fun ⟨e1, hC, _⟩ ⟨t1, _, hM⟩ => ⟨⟨V, E, K, inp, w, d, wV, wC, hC, hI, hM⟩, by rw [e1, t1], by rw [t1]; decide, fun q => absurd (t1.symm.trans q) (by decide)⟩) (fun ⟨e1, hC, _⟩ ⟨t1, _, hM⟩ => ⟨⟨V, E, K, inp, w, d, wV, wC, hC, hI, hM⟩, by rw [e1, t1], by rw [t1]; decide, fun q => absurd (t1.symm.trans q) (by decide)⟩) (fun ⟨_, _, _, _, h0, _⟩ ⟨_, c, _⟩ => by omega) (fun ⟨_, _, _, _, _, j, hj, _, hn, _⟩ ⟨_, ⟨_, c⟩, _⟩ => hn (c j hj)) (fun ⟨_, _, c⟩ ⟨_, ⟨h0, _⟩, _⟩ => by omega) (fun ⟨_, _, c⟩ ⟨_, ⟨h0, _⟩, _⟩ => by omega) (fun ⟨_, _, _, c⟩ ⟨_, ⟨_, j, hj, _, hn, _⟩, _⟩ => hn (c j hj)) (fun ⟨_, _, h0, _⟩ ⟨_, c, _⟩ => by omega)

theorem J_coefficient {G : xG} {st' : MS} {u9 : va_W × (Nat → Int64)} {r5 r6 : Int32} {o z u lv le lk : Nat} {V : List VV} {E : List EE} {K : List KK} {inp : Nat} {w d : Nat → Nat} {wV wC : Nat} {x1 x2 x3 : Int32} (hI : okI V E K inp wV wC) (hw : (r5 = nI 0 ∧ ∃ v9 : Int32, u9.2 0 = v9.toInt64 ∧ CCs G u9.1 o z u lv le lk V E K inp w d wV wC ∧ ∃ a b v, a < K.length ∧ b < 3 ∧ v < 60 ∧ x1 = nI a ∧ x2 = nI b ∧ x3 = nI v ∧ v9 = nI (kS (kAt K a) b v)) ∨ (r5 = nI 1 ∧ CCs G u9.1 o z u lv le lk V E K inp w d wV wC ∧ (¬ md K.length x1)) ∨ (r5 = nI 2 ∧ CCs G u9.1 o z u lv le lk V E K inp w d wV wC ∧ (md K.length x1 ∧ ¬ (md 3 x2 ∧ md 60 x3)))) (hm : (st'.th = 0 ∧ (∃ a b v, a < K.length ∧ b < 3 ∧ v < 60 ∧ x1 = nI a ∧ x2 = nI b ∧ x3 = nI v ∧ r6 = nI (kS (kAt K a) b v)) ∧ MRel st' V E K inp w wV wC) ∨ (st'.th = 1 ∧ (¬ md K.length x1) ∧ MRel st' V E K inp w wV wC) ∨ (st'.th = 2 ∧ (md K.length x1 ∧ ¬ (md 3 x2 ∧ md 60 x3)) ∧ MRel st' V E K inp w wV wC)) : Jst G o z u lv le lk u9.1 st' ∧ r5 = nI st'.th ∧ st'.th ≤ 2 ∧ (st'.th = 0 → u9.2 0 = r6.toInt64) := by
  obtain ⟨i1, i2, i3, i4, i5, i6, i7, i8, i9⟩ := id hI
  exact J3 hw hm (fun ⟨e1, v9, hv, hC, a, b, c, ha, hb, hc, ea, eb, ec, ev⟩ ⟨t1, ⟨a2, b2, c2, ha2, hb2, hc2, ea2, eb2, ec2, er⟩, hM⟩ => by
    have f1 : a = a2 := nI_inj (by omega) (by omega) (ea.symm.trans ea2)
    have f2 : b = b2 := nI_inj (by omega) (by omega) (eb.symm.trans eb2)
    have f3 : c = c2 := nI_inj (by omega) (by omega) (ec.symm.trans ec2)
    subst f1; subst f2; subst f3
    exact ⟨⟨V, E, K, inp, w, d, wV, wC, hC, hI, hM⟩, by rw [e1, t1], by rw [t1]; decide, fun _ => by rw [hv, ev, er]⟩) (fun ⟨e1, hC, _⟩ ⟨t1, _, hM⟩ => ⟨⟨V, E, K, inp, w, d, wV, wC, hC, hI, hM⟩, by rw [e1, t1], by rw [t1]; decide, fun q => absurd (t1.symm.trans q) (by decide)⟩) (fun ⟨e1, hC, _⟩ ⟨t1, _, hM⟩ => ⟨⟨V, E, K, inp, w, d, wV, wC, hC, hI, hM⟩, by rw [e1, t1], by rw [t1]; decide, fun q => absurd (t1.symm.trans q) (by decide)⟩) (fun ⟨_, _, _, _, a, b, c, ha, hb, hc, ea, eb, ec, _⟩ ⟨_, q, _⟩ => q ⟨a, ha, ea⟩) (fun ⟨_, _, _, _, a, b, c, ha, hb, hc, ea, eb, ec, _⟩ ⟨_, ⟨_, q⟩, _⟩ => q ⟨⟨b, hb, eb⟩, ⟨c, hc, ec⟩⟩) (fun ⟨_, _, q⟩ ⟨_, ⟨a, b, c, ha, hb, hc, ea, eb, ec, _⟩, _⟩ => q ⟨a, ha, ea⟩) (fun ⟨_, _, q⟩ ⟨_, ⟨h, _⟩, _⟩ => q h) (fun ⟨_, _, _, q⟩ ⟨_, ⟨a, b, c, ha, hb, hc, ea, eb, ec, _⟩, _⟩ => q ⟨⟨b, hb, eb⟩, ⟨c, hc, ec⟩⟩) (fun ⟨_, _, h, _⟩ ⟨_, q, _⟩ => q h)

theorem J_terms {G : xG} {st' : MS} {u9 : va_W × (Nat → Int64)} {r5 r6 : Int32} {o z u lv le lk : Nat} {V : List VV} {E : List EE} {K : List KK} {inp : Nat} {w d : Nat → Nat} {wV wC : Nat} {x1 : Int32} (hI : okI V E K inp wV wC) (hw : (r5 = nI 0 ∧ ∃ v9 : Int32, u9.2 0 = v9.toInt64 ∧ CCs G u9.1 o z u lv le lk V E K inp w d wV wC ∧ ∃ j, j < E.length ∧ x1 = nI j ∧ v9 = nI (nz (sE E j) 60)) ∨ (r5 = nI 1 ∧ CCs G u9.1 o z u lv le lk V E K inp w d wV wC ∧ (¬ md E.length x1))) (hm : (st'.th = 0 ∧ (∃ j, j < E.length ∧ x1 = nI j ∧ r6 = nI (nz (sE E j) 60)) ∧ MRel st' V E K inp w wV wC) ∨ (st'.th = 1 ∧ (¬ md E.length x1) ∧ MRel st' V E K inp w wV wC)) : Jst G o z u lv le lk u9.1 st' ∧ r5 = nI st'.th ∧ st'.th ≤ 2 ∧ (st'.th = 0 → u9.2 0 = r6.toInt64) := by
  obtain ⟨i1, i2, i3, i4, i5, i6, i7, i8, i9⟩ := id hI
  exact J2 hw hm (fun ⟨e1, v9, hv, hC, j, hj, ej, ev⟩ ⟨t1, ⟨j2, hj2, ej2, er⟩, hM⟩ => by
    have e9 : j = j2 := nI_inj (by omega) (by omega) (ej.symm.trans ej2)
    subst e9
    exact ⟨⟨V, E, K, inp, w, d, wV, wC, hC, hI, hM⟩, by rw [e1, t1], by rw [t1]; decide, fun _ => by rw [hv, ev, er]⟩) (fun ⟨e1, hC, _⟩ ⟨t1, _, hM⟩ => ⟨⟨V, E, K, inp, w, d, wV, wC, hC, hI, hM⟩, by rw [e1, t1], by rw [t1]; decide, fun q => absurd (t1.symm.trans q) (by decide)⟩) (fun ⟨_, _, _, _, j, hj, ej, _⟩ ⟨_, c, _⟩ => c ⟨j, hj, ej⟩) (fun ⟨_, _, c⟩ ⟨_, ⟨j, hj, ej, _⟩, _⟩ => c ⟨j, hj, ej⟩)

theorem J_uses {G : xG} {st' : MS} {u9 : va_W × (Nat → Int64)} {r5 r6 : Int32} {o z u lv le lk : Nat} {V : List VV} {E : List EE} {K : List KK} {inp : Nat} {w d : Nat → Nat} {wV wC : Nat} {x1 : Int32} (hI : okI V E K inp wV wC) (hw : (r5 = nI 0 ∧ ∃ v9 : Int32, u9.2 0 = v9.toInt64 ∧ CCs G u9.1 o z u lv le lk V E K inp w d wV wC ∧ ∃ v, v < 60 ∧ x1 = nI v ∧ v9 = nI (usN K v K.length)) ∨ (r5 = nI 1 ∧ CCs G u9.1 o z u lv le lk V E K inp w d wV wC ∧ (¬ md 60 x1))) (hm : (st'.th = 0 ∧ (∃ v, v < 60 ∧ x1 = nI v ∧ r6 = nI (usN K v K.length)) ∧ MRel st' V E K inp w wV wC) ∨ (st'.th = 1 ∧ (¬ md 60 x1) ∧ MRel st' V E K inp w wV wC)) : Jst G o z u lv le lk u9.1 st' ∧ r5 = nI st'.th ∧ st'.th ≤ 2 ∧ (st'.th = 0 → u9.2 0 = r6.toInt64) := by
  obtain ⟨i1, i2, i3, i4, i5, i6, i7, i8, i9⟩ := id hI
  exact J2 hw hm (fun ⟨e1, v9, hv, hC, j, hj, ej, ev⟩ ⟨t1, ⟨j2, hj2, ej2, er⟩, hM⟩ => by
    have e9 : j = j2 := nI_inj (by omega) (by omega) (ej.symm.trans ej2)
    subst e9
    exact ⟨⟨V, E, K, inp, w, d, wV, wC, hC, hI, hM⟩, by rw [e1, t1], by rw [t1]; decide, fun _ => by rw [hv, ev, er]⟩) (fun ⟨e1, hC, _⟩ ⟨t1, _, hM⟩ => ⟨⟨V, E, K, inp, w, d, wV, wC, hC, hI, hM⟩, by rw [e1, t1], by rw [t1]; decide, fun q => absurd (t1.symm.trans q) (by decide)⟩) (fun ⟨_, _, _, _, j, hj, ej, _⟩ ⟨_, c, _⟩ => c ⟨j, hj, ej⟩) (fun ⟨_, _, c⟩ ⟨_, ⟨j, hj, ej, _⟩, _⟩ => c ⟨j, hj, ej⟩)

theorem J_count {G : xG} {st' : MS} {u9 : va_W × (Nat → Int64)} {r5 r6 : Int32} {o z u lv le lk : Nat} {V : List VV} {E : List EE} {K : List KK} {inp : Nat} {w d : Nat → Nat} {wV wC : Nat} {x1 : Int32} (hI : okI V E K inp wV wC) (hw : (r5 = nI 0 ∧ ∃ v9 : Int32, u9.2 0 = v9.toInt64 ∧ CCs G u9.1 o z u lv le lk V E K inp w d wV wC ∧ ∃ k, k < 6 ∧ x1 = nI k ∧ v9 = nI (cnt k V E K inp wV)) ∨ (r5 = nI 1 ∧ CCs G u9.1 o z u lv le lk V E K inp w d wV wC ∧ (¬ md 6 x1))) (hm : (st'.th = 0 ∧ (∃ k, k < 6 ∧ x1 = nI k ∧ r6 = nI (cnt k V E K inp wV)) ∧ MRel st' V E K inp w wV wC) ∨ (st'.th = 1 ∧ (¬ md 6 x1) ∧ MRel st' V E K inp w wV wC)) : Jst G o z u lv le lk u9.1 st' ∧ r5 = nI st'.th ∧ st'.th ≤ 2 ∧ (st'.th = 0 → u9.2 0 = r6.toInt64) := by
  obtain ⟨i1, i2, i3, i4, i5, i6, i7, i8, i9⟩ := id hI
  exact J2 hw hm (fun ⟨e1, v9, hv, hC, j, hj, ej, ev⟩ ⟨t1, ⟨j2, hj2, ej2, er⟩, hM⟩ => by
    have e9 : j = j2 := nI_inj (by omega) (by omega) (ej.symm.trans ej2)
    subst e9
    exact ⟨⟨V, E, K, inp, w, d, wV, wC, hC, hI, hM⟩, by rw [e1, t1], by rw [t1]; decide, fun _ => by rw [hv, ev, er]⟩) (fun ⟨e1, hC, _⟩ ⟨t1, _, hM⟩ => ⟨⟨V, E, K, inp, w, d, wV, wC, hC, hI, hM⟩, by rw [e1, t1], by rw [t1]; decide, fun q => absurd (t1.symm.trans q) (by decide)⟩) (fun ⟨_, _, _, _, j, hj, ej, _⟩ ⟨_, c, _⟩ => c ⟨j, hj, ej⟩) (fun ⟨_, _, c⟩ ⟨_, ⟨j, hj, ej, _⟩, _⟩ => c ⟨j, hj, ej⟩)
