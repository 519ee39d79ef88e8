/-! the compiler's state: V its variables (rule, two sums, what was given), E its expressions (sum, input or 0), K its constraints, w the witness, d the draft -/
abbrev VV : Type := Nat × (Nat → Nat) × (Nat → Nat) × Nat
abbrev EE : Type := (Nat → Nat) × Nat
abbrev KK : Type := (Nat → Nat) × (Nat → Nat) × (Nat → Nat)
def hard (k : Nat) (e : va_E) : Prop := (∃ (ci : Nat) (fs : List Value), e = .inr (ci, fs) ∧ (ci = 1 ∨ ci = 2 ∨ ci = 3 ∨ ci = 4)) ∨ (∃ (c : ClassId) (n : Nat) (f : Nat → Int32), e = .inl (c, n, .inl f) ∧ k ≠ 8 ∧ k ≠ 9)
def kp (ws w : va_W) : Prop := ∀ (k a : Nat) (e : va_E), ws[k]? = some (a, e) → hard k e → w[k]? = some (a, e)
theorem kp.rf {ws : va_W} : kp ws ws := fun _ _ _ h _ => h
theorem kp.tr {ws w v : va_W} (h1 : kp ws w) (h2 : kp w v) : kp ws v := fun k a e h hh => h2 k a e (h1 k a e h hh) hh
theorem kp.app {ws n : va_W} : kp ws (ws ++ n) := fun _ _ _ h _ => w_app h
theorem hard_o {k ci : Nat} {fs : List Value} (h : ci = 1 ∨ ci = 2 ∨ ci = 3 ∨ ci = 4) : hard k (.inr (ci, fs)) := Or.inl ⟨ci, fs, rfl, h⟩
theorem isS.kp {G : xG} {ws w : va_W} {a : Nat} {f : Nat → Nat} (hk : kp ws w) (h : isS G ws a f) : isS G w a f := by
  obtain ⟨k, k', ca, h0, h1, h2, h3, h4, h5⟩ := h
  exact ⟨k, k', ca, h0, hk _ _ _ h1 (hard_o (Or.inl rfl)), hk _ _ _ h2 (Or.inr ⟨_, _, _, rfl, h3, h4⟩), h3, h4, h5⟩
def isV (G : xG) (ws : va_W) (a : Nat) (x : VV) : Prop := ∃ (k la ra : Nat), ws[k]? = some (a, .inr (2, [.int (nI x.1), .ref la, .ref ra, .int (nI x.2.2.2)])) ∧ isS G ws la x.2.1 ∧ isS G ws ra x.2.2.1
def isE (G : xG) (ws : va_W) (a : Nat) (x : EE) : Prop := ∃ (k sa : Nat), ws[k]? = some (a, .inr (3, [.ref sa, .int (nI x.2)])) ∧ isS G ws sa x.1
def isC (G : xG) (ws : va_W) (a : Nat) (x : KK) : Prop := ∃ (k xa ya za : Nat), ws[k]? = some (a, .inr (4, [.ref xa, .ref ya, .ref za])) ∧ isS G ws xa x.1 ∧ isS G ws ya x.2.1 ∧ isS G ws za x.2.2
theorem isV.kp {G : xG} {ws w : va_W} {a : Nat} {x : VV} (hk : kp ws w) (h : isV G ws a x) : isV G w a x := by
  obtain ⟨k, la, ra, h1, h2, h3⟩ := h
  exact ⟨k, la, ra, hk _ _ _ h1 (hard_o (Or.inr (Or.inl rfl))), h2.kp hk, h3.kp hk⟩
theorem isE.kp {G : xG} {ws w : va_W} {a : Nat} {x : EE} (hk : kp ws w) (h : isE G ws a x) : isE G w a x := by
  obtain ⟨k, sa, h1, h2⟩ := h
  exact ⟨k, sa, hk _ _ _ h1 (hard_o (Or.inr (Or.inr (Or.inl rfl)))), h2.kp hk⟩
theorem isC.kp {G : xG} {ws w : va_W} {a : Nat} {x : KK} (hk : kp ws w) (h : isC G ws a x) : isC G w a x := by
  obtain ⟨k, xa, ya, za, h1, h2, h3, h4⟩ := h
  exact ⟨k, xa, ya, za, hk _ _ _ h1 (hard_o (Or.inr (Or.inr (Or.inr rfl)))), h2.kp hk, h3.kp hk, h4.kp hk⟩
theorem isV.O {G : xG} {ws : va_W} {a : Nat} {x : VV} (h : isV G ws a x) : isO ws a := by obtain ⟨k, la, ra, h1, -⟩ := h; exact ⟨k, 2, _, h1, Or.inl rfl⟩
theorem isE.O {G : xG} {ws : va_W} {a : Nat} {x : EE} (h : isE G ws a x) : isO ws a := by obtain ⟨k, sa, h1, -⟩ := h; exact ⟨k, 3, _, h1, Or.inr (Or.inl rfl)⟩
theorem isC.O {G : xG} {ws : va_W} {a : Nat} {x : KK} (h : isC G ws a x) : isO ws a := by obtain ⟨k, xa, ya, za, h1, -⟩ := h; exact ⟨k, 4, _, h1, Or.inr (Or.inr rfl)⟩
theorem keep2.kp {G : xG} {ws w : va_W} {kl : Nat} {ka : Option Nat} {al n : Nat} {g : Nat → Nat} (hL : isL G ws kl ka al n g) (h : keep2 kl ka ws w) : kp ws w := by
  obtain ⟨mo, ea, h0, hd⟩ := hL
  intro k a e hk hh
  refine h.1 k _ hk ?_ ?_
  · rintro rfl
    have := w_fn hk h0
    cases this
    rcases hh with ⟨ci, fs, e1, e2⟩ | ⟨c, m, f, e1, -⟩
    · cases e1; omega
    · cases e1
  · rintro rfl
    rcases hd with ⟨e1, -⟩ | ⟨k2, cap, f2, e1, e2, -⟩
    · cases e1
    · cases e1
      have := w_fn hk e2
      cases this
      rcases hh with ⟨ci, fs, e3, e4⟩ | ⟨c, m, f, e3, -⟩
      · cases e3
      · cases e3
theorem isL.app {G : xG} {ws m : va_W} {kl : Nat} {ka : Option Nat} {al n : Nat} {g : Nat → Nat} (h : isL G ws kl ka al n g) : isL G (ws ++ m) kl ka al n g := by
  obtain ⟨mo, ea, h0, hd⟩ := h
  refine ⟨mo, ea, w_app h0, ?_⟩
  rcases hd with h | ⟨k, cap, f, h1, h2, h3⟩
  · exact Or.inl h
  · exact Or.inr ⟨k, cap, f, h1, w_app h2, h3⟩
/-- another list, while one grows -/
theorem isL.other {G : xG} {ws w : va_W} {kl kl2 : Nat} {ka ka2 : Option Nat} {al al2 n n2 : Nat} {g g2 : Nat → Nat} (hL : isL G ws kl ka al n g) (h : isL G ws kl2 ka2 al2 n2 g2) (hk : keep2 kl ka ws w) (h1 : kl2 ≠ kl) (h2 : ∀ k, ka2 = some k → ka ≠ some k) : isL G w kl2 ka2 al2 n2 g2 := by
  obtain ⟨mo, ea, h0, hd⟩ := hL
  obtain ⟨mo2, ea2, h02, hd2⟩ := h
  refine ⟨mo2, ea2, hk.1 _ _ h02 h1 ?_, ?_⟩
  · rintro rfl
    rcases hd with ⟨e1, -⟩ | ⟨k, cap, f, e1, e2, -⟩
    · cases e1
    · cases e1
      have := w_fn h02 e2
      cases this
  · rcases hd2 with h | ⟨k, cap, f, e1, e2, e3⟩
    · exact Or.inl h
    · refine Or.inr ⟨k, cap, f, e1, hk.1 _ _ e2 ?_ (h2 k e1), e3⟩
      exact w_dif e2 h0 (by simp)
/-- a cell of another kind, while a list grows -/
theorem keep2.at {G : xG} {ws w : va_W} {kl : Nat} {ka : Option Nat} {al n : Nat} {g : Nat → Nat} (hL : isL G ws kl ka al n g) (hk : keep2 kl ka ws w) {k a : Nat} {e : va_E} (h : ws[k]? = some (a, e)) (h1 : k ≠ kl) (h2 : ∀ (c : ClassId) (m : Nat) (f : Nat → Option Nat), e ≠ .inl (c, m, .inr (.inr (.inr (.inr f))))) : w[k]? = some (a, e) := by
  obtain ⟨mo, ea, h0, hd⟩ := hL
  refine hk.1 _ _ h h1 ?_
  rintro rfl
  rcases hd with ⟨e1, -⟩ | ⟨k2, cap, f, e1, e2, -⟩
  · cases e1
  · cases e1
    have := w_fn h e2
    cases this
    exact h2 _ _ _ rfl
def inj (n : Nat) (g : Nat → Nat) : Prop := ∀ i j, i < n → j < n → g i = g j → i = j
def aprt (kV kE kK : Option Nat) : Prop := (∀ k, kV = some k → kE ≠ some k ∧ kK ≠ some k) ∧ ∀ k, kE = some k → kK ≠ some k
def rows2 (G : xG) (ws : va_W) (wa da : Nat) (w d : Nat → Nat) : Prop := ∃ (kw kd : Nat) (hw hd : Nat → Int32), ((kw = 8 ∧ kd = 9) ∨ (kw = 9 ∧ kd = 8)) ∧ ws[kw]? = some (wa, aI G 60 hw) ∧ ws[kd]? = some (da, aI G 60 hd) ∧ (∀ j, j < 60 → hw j = nI (w j)) ∧ (∀ j, j < 60 → w j < 97) ∧ (∀ j, j < 60 → hd j = nI (d j)) ∧ ∀ j, j < 60 → d j < 97
def CCx (G : xG) (ws : va_W) (o z u lv le lk wa da : Nat) (kV kE kK : Option Nat) (gV gE gK : Nat → Nat) (V : List VV) (E : List EE) (K : List KK) (inp : Nat) (w d : Nat → Nat) (wV wC : Nat) : Prop :=
  ws[0]? = some (o, .inr (0, [.ref z, .ref u, .ref lv, .ref le, .ref lk, .int (nI inp), .ref wa, .ref da, .int (nI wV), .int (nI wC)])) ∧
  isS G ws z (fun _ => 0) ∧ isS G ws u (unit 0) ∧
  isL G ws 5 kV lv V.length gV ∧ isL G ws 6 kE le E.length gE ∧ isL G ws 7 kK lk K.length gK ∧
  (∀ i x, V[i]? = some x → isV G ws (gV i) x) ∧ (∀ i x, E[i]? = some x → isE G ws (gE i) x) ∧ (∀ i x, K[i]? = some x → isC G ws (gK i) x) ∧
  aprt kV kE kK ∧ inj V.length gV ∧ rows2 G ws wa da w d ∧ 10 ≤ ws.length
def CCs (G : xG) (ws : va_W) (o z u lv le lk : Nat) (V : List VV) (E : List EE) (K : List KK) (inp : Nat) (w d : Nat → Nat) (wV wC : Nat) : Prop :=
  ∃ (wa da : Nat) (kV kE kK : Option Nat) (gV gE gK : Nat → Nat), CCx G ws o z u lv le lk wa da kV kE kK gV gE gK V E K inp w d wV wC
theorem rows2.app {G : xG} {ws n : va_W} {wa da : Nat} {w d : Nat → Nat} (h : rows2 G ws wa da w d) : rows2 G (ws ++ n) wa da w d := by
  obtain ⟨kw, kd, hw, hd, h0, h1, h2, h3⟩ := h
  exact ⟨kw, kd, hw, hd, h0, w_app h1, w_app h2, h3⟩
theorem CCx.app {G : xG} {ws n : va_W} {o z u lv le lk wa da : Nat} {kV kE kK : Option Nat} {gV gE gK : Nat → Nat} {V : List VV} {E : List EE} {K : List KK} {inp : Nat} {w d : Nat → Nat} {wV wC : Nat} (h : CCx G ws o z u lv le lk wa da kV kE kK gV gE gK V E K inp w d wV wC) : CCx G (ws ++ n) o z u lv le lk wa da kV kE kK gV gE gK V E K inp w d wV wC := by
  obtain ⟨h1, h2, h3, h4, h5, h6, h7, h8, h9, h10, h11, h12, h13⟩ := h
  exact ⟨w_app h1, h2.kp kp.app, h3.kp kp.app, h4.app, h5.app, h6.app, fun i x hx => (h7 i x hx).kp kp.app, fun i x hx => (h8 i x hx).kp kp.app, fun i x hx => (h9 i x hx).kp kp.app, h10, h11, h12.app, by rw [List.length_append]; omega⟩
theorem CCx.put0 {G : xG} {ws : va_W} {o z u lv le lk wa da wa2 da2 : Nat} {kV kE kK : Option Nat} {gV gE gK : Nat → Nat} {V : List VV} {E : List EE} {K : List KK} {inp inp2 : Nat} {w d w2 d2 : Nat → Nat} {wV wC wV2 wC2 : Nat} (h : CCx G ws o z u lv le lk wa da kV kE kK gV gE gK V E K inp w d wV wC) (hr : rows2 G ws wa2 da2 w2 d2) :
    CCx G (ws.set 0 (o, .inr (0, [.ref z, .ref u, .ref lv, .ref le, .ref lk, .int (nI inp2), .ref wa2, .ref da2, .int (nI wV2), .int (nI wC2)]))) o z u lv le lk wa2 da2 kV kE kK gV gE gK V E K inp2 w2 d2 wV2 wC2 ∧ kp ws (ws.set 0 (o, .inr (0, [.ref z, .ref u, .ref lv, .ref le, .ref lk, .int (nI inp2), .ref wa2, .ref da2, .int (nI wV2), .int (nI wC2)]))) := by
  obtain ⟨h1, h2, h3, h4, h5, h6, h7, h8, h9, h10, h11, h12, h13⟩ := h
  have kk : kp ws (ws.set 0 (o, .inr (0, [.ref z, .ref u, .ref lv, .ref le, .ref lk, .int (nI inp2), .ref wa2, .ref da2, .int (nI wV2), .int (nI wC2)]))) := by
    intro k a e hk hh
    refine w_ne ?_ hk
    rintro rfl
    have := w_fn hk h1
    cases this
    rcases hh with ⟨ci, fs, e1, e2⟩ | ⟨c, m, f, e1, -⟩
    · cases e1; omega
    · cases e1
  have kl : ∀ {kl2 : Nat} {kb : Option Nat} {al2 n2 : Nat} {g2 : Nat → Nat}, 0 ≠ kl2 → isL G ws kl2 kb al2 n2 g2 → isL G (ws.set 0 (o, .inr (0, [.ref z, .ref u, .ref lv, .ref le, .ref lk, .int (nI inp2), .ref wa2, .ref da2, .int (nI wV2), .int (nI wC2)]))) kl2 kb al2 n2 g2 := by
    intro kl2 kb al2 n2 g2 hne q
    obtain ⟨mo, ea, q0, qd⟩ := q
    refine ⟨mo, ea, w_ne hne q0, ?_⟩
    rcases qd with h | ⟨k, cap, f, e1, e2, e3⟩
    · exact Or.inl h
    · exact Or.inr ⟨k, cap, f, e1, w_ne (w_dif h1 e2 (by simp)) e2, e3⟩
  refine ⟨⟨w_eq h1, h2.kp kk, h3.kp kk, kl (by decide) h4, kl (by decide) h5, kl (by decide) h6, fun i x hx => (h7 i x hx).kp kk, fun i x hx => (h8 i x hx).kp kk, fun i x hx => (h9 i x hx).kp kk, h10, h11, ?_, by rw [w_setlen]; exact h13⟩, kk⟩
  obtain ⟨kw, kd, hw, hd, e0, e1, e2, e3⟩ := hr
  exact ⟨kw, kd, hw, hd, e0, w_ne (by omega) e1, w_ne (by omega) e2, e3⟩
theorem CCs.app {G : xG} {ws n : va_W} {o z u lv le lk : Nat} {V : List VV} {E : List EE} {K : List KK} {inp : Nat} {w d : Nat → Nat} {wV wC : Nat} (h : CCs G ws o z u lv le lk V E K inp w d wV wC) : CCs G (ws ++ n) o z u lv le lk V E K inp w d wV wC := by
  obtain ⟨wa, da, kV, kE, kK, gV, gE, gK, h⟩ := h
  exact ⟨wa, da, kV, kE, kK, gV, gE, gK, h.app⟩
theorem up_lt {g : Nat → Nat} {n v i : Nat} (h : i < n) : va_up g n v i = g i := by unfold va_up; rw [if_neg (by omega)]
theorem up_at {g : Nat → Nat} {n v : Nat} : va_up g n v n = v := by unfold va_up; rw [if_pos rfl]
theorem V_get {α : Type} {V : List α} {i : Nat} (h : i < V.length) : ∃ x, V[i]? = some x := ⟨V[i], List.getElem?_eq_getElem h⟩
theorem V_app {α : Type} {V : List α} {x y : α} {i : Nat} (h : (V ++ [x])[i]? = some y) : (i < V.length ∧ V[i]? = some y) ∨ (i = V.length ∧ y = x) := by
  by_cases hl : i < V.length
  · rw [List.getElem?_append_left hl] at h
    exact Or.inl ⟨hl, h⟩
  · rw [List.getElem?_append_right (by omega)] at h
    have h2 : i - V.length < 1 := (List.getElem?_eq_some_iff.mp h).1
    have h3 : i = V.length := by omega
    subst h3
    rw [Nat.sub_self] at h
    cases h
    exact Or.inr ⟨rfl, rfl⟩

theorem CCx.addV {G : xG} {ws w9 : va_W} {o z u lv le lk wa da : Nat} {kV kE kK ka9 : Option Nat} {gV gE gK : Nat → Nat} {V : List VV} {E : List EE} {K : List KK} {inp : Nat} {w d : Nat → Nat} {wV wC v : Nat} {x : VV} (h : CCx G ws o z u lv le lk wa da kV kE kK gV gE gK V E K inp w d wV wC) (hL : isL G w9 5 ka9 lv (V.length + 1) (va_up gV V.length v)) (hk : keep2 5 kV ws w9) (hka : ka9 = kV ∨ ka9 = some ws.length) (hx : isV G w9 v x) (hn : ∀ i, i < V.length → gV i ≠ v) : CCx G w9 o z u lv le lk wa da ka9 kE kK (va_up gV V.length v) gE gK (V ++ [x]) E K inp w d wV wC := by
  obtain ⟨h1, h2, h3, h4, h5, h6, h7, h8, h9, ⟨a1, a2⟩, h11, h12, h13⟩ := h
  have kk := keep2.kp h4 hk
  have lt : ∀ {kl2 : Nat} {kb : Option Nat} {al2 n2 : Nat} {g2 : Nat → Nat}, isL G ws kl2 kb al2 n2 g2 → ∀ k, kb = some k → k < ws.length := by
    intro kl2 kb al2 n2 g2 q k e
    obtain ⟨mo, ea, q0, qd⟩ := q
    rcases qd with ⟨e1, -⟩ | ⟨k3, cap, f, e1, e2, -⟩
    · rw [e1] at e; cases e
    · rw [e1] at e; cases e; exact w_lt e2
  have newl : ((V ++ [x]).length = V.length + 1) := by simp
  have ne0 : ∀ (c : ClassId) (m : Nat) (f : Nat → Option Nat) (cI : ClassId) (n : Nat) (hh : Nat → Int32), (Sum.inl (cI, n, Sum.inl hh) : va_E) ≠ .inl (c, m, .inr (.inr (.inr (.inr f)))) := fun c m f cI n hh q => by cases q
  refine ⟨keep2.at h4 hk h1 (by decide) (fun _ _ _ q => by cases q), h2.kp kk, h3.kp kk, (by rw [newl]; exact hL), (isL.other h4 h5 hk (by decide) (fun k e => fun q => (a1 k q).1 e)), (isL.other h4 h6 hk (by decide) (fun k e => fun q => (a1 k q).2 e)), ?_, (fun i y hy => (h8 i y hy).kp kk), (fun i y hy => (h9 i y hy).kp kk), ?_, ?_, ?_, Nat.le_trans h13 hk.2⟩
  · intro i y hy
    rcases V_app hy with ⟨q1, q2⟩ | ⟨rfl, rfl⟩
    · rw [up_lt q1]; exact (h7 i y q2).kp kk
    · rw [up_at]; exact hx
  · rcases hka with rfl | rfl
    · exact ⟨a1, a2⟩
    · exact ⟨fun k e => by cases e; exact ⟨fun q => absurd (lt h5 _ q) (by omega), fun q => absurd (lt h6 _ q) (by omega)⟩, a2⟩
  · intro i j hi hj e
    rw [newl] at hi hj
    unfold va_up at e
    split at e <;> split at e
    · omega
    · exact absurd e.symm (hn j (by omega))
    · exact absurd e (hn i (by omega))
    · exact h11 i j (by omega) (by omega) e
  · obtain ⟨kw, kd, hw, hd, e0, e1, e2, e3⟩ := h12
    exact ⟨kw, kd, hw, hd, e0, keep2.at h4 hk e1 (by omega) (fun _ _ _ => ne0 _ _ _ _ _ _), keep2.at h4 hk e2 (by omega) (fun _ _ _ => ne0 _ _ _ _ _ _), e3⟩

theorem CCx.addE {G : xG} {ws w9 : va_W} {o z u lv le lk wa da : Nat} {kV kE kK ka9 : Option Nat} {gV gE gK : Nat → Nat} {V : List VV} {E : List EE} {K : List KK} {inp : Nat} {w d : Nat → Nat} {wV wC v : Nat} {x : EE} (h : CCx G ws o z u lv le lk wa da kV kE kK gV gE gK V E K inp w d wV wC) (hL : isL G w9 6 ka9 le (E.length + 1) (va_up gE E.length v)) (hk : keep2 6 kE ws w9) (hka : ka9 = kE ∨ ka9 = some ws.length) (hx : isE G w9 v x) : CCx G w9 o z u lv le lk wa da kV ka9 kK gV (va_up gE E.length v) gK V (E ++ [x]) K inp w d wV wC := by
  obtain ⟨h1, h2, h3, h4, h5, h6, h7, h8, h9, ⟨a1, a2⟩, h11, h12, h13⟩ := h
  have kk := keep2.kp h5 hk
  have lt : ∀ {kl2 : Nat} {kb : Option Nat} {al2 n2 : Nat} {g2 : Nat → Nat}, isL G ws kl2 kb al2 n2 g2 → ∀ k, kb = some k → k < ws.length := by
    intro kl2 kb al2 n2 g2 q k e
    obtain ⟨mo, ea, q0, qd⟩ := q
    rcases qd with ⟨e1, -⟩ | ⟨k3, cap, f, e1, e2, -⟩
    · rw [e1] at e; cases e
    · rw [e1] at e; cases e; exact w_lt e2
  have newl : ((E ++ [x]).length = E.length + 1) := by simp
  have ne0 : ∀ (c : ClassId) (m : Nat) (f : Nat → Option Nat) (cI : ClassId) (n : Nat) (hh : Nat → Int32), (Sum.inl (cI, n, Sum.inl hh) : va_E) ≠ .inl (c, m, .inr (.inr (.inr (.inr f)))) := fun c m f cI n hh q => by cases q
  refine ⟨keep2.at h5 hk h1 (by decide) (fun _ _ _ q => by cases q), h2.kp kk, h3.kp kk, (isL.other h5 h4 hk (by decide) (fun k e => fun q => (a1 k e).1 q)), (by rw [newl]; exact hL), (isL.other h5 h6 hk (by decide) (fun k e => fun q => a2 k q e)), (fun i y hy => (h7 i y hy).kp kk), ?_, (fun i y hy => (h9 i y hy).kp kk), ?_, h11, ?_, Nat.le_trans h13 hk.2⟩
  · intro i y hy
    rcases V_app hy with ⟨q1, q2⟩ | ⟨rfl, rfl⟩
    · rw [up_lt q1]; exact (h8 i y q2).kp kk
    · rw [up_at]; exact hx
  · rcases hka with rfl | rfl
    · exact ⟨a1, a2⟩
    · exact ⟨fun k e => ⟨fun q => absurd (lt h4 _ e) (by cases q; omega), (a1 k e).2⟩, fun k e => by cases e; exact fun q => absurd (lt h6 _ q) (by omega)⟩
  · obtain ⟨kw, kd, hw, hd, e0, e1, e2, e3⟩ := h12
    exact ⟨kw, kd, hw, hd, e0, keep2.at h5 hk e1 (by omega) (fun _ _ _ => ne0 _ _ _ _ _ _), keep2.at h5 hk e2 (by omega) (fun _ _ _ => ne0 _ _ _ _ _ _), e3⟩

theorem CCx.addK {G : xG} {ws w9 : va_W} {o z u lv le lk wa da : Nat} {kV kE kK ka9 : Option Nat} {gV gE gK : Nat → Nat} {V : List VV} {E : List EE} {K : List KK} {inp : Nat} {w d : Nat → Nat} {wV wC v : Nat} {x : KK} (h : CCx G ws o z u lv le lk wa da kV kE kK gV gE gK V E K inp w d wV wC) (hL : isL G w9 7 ka9 lk (K.length + 1) (va_up gK K.length v)) (hk : keep2 7 kK ws w9) (hka : ka9 = kK ∨ ka9 = some ws.length) (hx : isC G w9 v x) (hn : ∀ i, i < K.length → gK i ≠ v) : CCx G w9 o z u lv le lk wa da kV kE ka9 gV gE (va_up gK K.length v) V E (K ++ [x]) inp w d wV wC := by
  obtain ⟨h1, h2, h3, h4, h5, h6, h7, h8, h9, ⟨a1, a2⟩, h11, h12, h13⟩ := h
  have kk := keep2.kp h6 hk
  have lt : ∀ {kl2 : Nat} {kb : Option Nat} {al2 n2 : Nat} {g2 : Nat → Nat}, isL G ws kl2 kb al2 n2 g2 → ∀ k, kb = some k → k < ws.length := by
    intro kl2 kb al2 n2 g2 q k e
    obtain ⟨mo, ea, q0, qd⟩ := q
    rcases qd with ⟨e1, -⟩ | ⟨k3, cap, f, e1, e2, -⟩
    · rw [e1] at e; cases e
    · rw [e1] at e; cases e; exact w_lt e2
  have newl : ((K ++ [x]).length = K.length + 1) := by simp
  have ne0 : ∀ (c : ClassId) (m : Nat) (f : Nat → Option Nat) (cI : ClassId) (n : Nat) (hh : Nat → Int32), (Sum.inl (cI, n, Sum.inl hh) : va_E) ≠ .inl (c, m, .inr (.inr (.inr (.inr f)))) := fun c m f cI n hh q => by cases q
  refine ⟨keep2.at h6 hk h1 (by decide) (fun _ _ _ q => by cases q), h2.kp kk, h3.kp kk, (isL.other h6 h4 hk (by decide) (fun k e => fun q => (a1 k e).2 q)), (isL.other h6 h5 hk (by decide) (fun k e => fun q => a2 k e q)), (by rw [newl]; exact hL), (fun i y hy => (h7 i y hy).kp kk), (fun i y hy => (h8 i y hy).kp kk), ?_, ?_, h11, ?_, Nat.le_trans h13 hk.2⟩
  · intro i y hy
    rcases V_app hy with ⟨q1, q2⟩ | ⟨rfl, rfl⟩
    · rw [up_lt q1]; exact (h9 i y q2).kp kk
    · rw [up_at]; exact hx
  · rcases hka with rfl | rfl
    · exact ⟨a1, a2⟩
    · exact ⟨fun k e => ⟨(a1 k e).1, fun q => absurd (lt h4 _ e) (by cases q; omega)⟩, fun k e q => absurd (lt h5 _ e) (by cases q; omega)⟩
  · obtain ⟨kw, kd, hw, hd, e0, e1, e2, e3⟩ := h12
    exact ⟨kw, kd, hw, hd, e0, keep2.at h6 hk e1 (by omega) (fun _ _ _ => ne0 _ _ _ _ _ _), keep2.at h6 hk e2 (by omega) (fun _ _ _ => ne0 _ _ _ _ _ _), e3⟩
