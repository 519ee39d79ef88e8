/-! the reference's state beside the class's -/
theorem kAt_app {K : List KK} {x : KK} {c : Nat} (h : c < K.length) : kAt (K ++ [x]) c = kAt K c := by unfold kAt; rw [List.getD_eq_getElem?_getD, List.getD_eq_getElem?_getD, List.getElem?_append_left h]
theorem kAt_new {K : List KK} {x : KK} : kAt (K ++ [x]) K.length = x := kAt_of (by simp)
theorem vAt_app {V : List VV} {x : VV} {c : Nat} (h : c < V.length) : vAt (V ++ [x]) c = vAt V c := by unfold vAt; rw [List.getD_eq_getElem?_getD, List.getD_eq_getElem?_getD, List.getElem?_append_left h]
theorem vAt_new {V : List VV} {x : VV} : vAt (V ++ [x]) V.length = x := vAt_of (by simp)
theorem sE_app {E : List EE} {x : EE} {c : Nat} (h : c < E.length) : sE (E ++ [x]) c = sE E c := by unfold sE; rw [List.getElem?_append_left h]
theorem sE_new {E : List EE} {x : EE} : sE (E ++ [x]) E.length = x.1 := sE_of (by simp)
theorem eI_app {E : List EE} {x : EE} {c : Nat} (h : c < E.length) : eI (E ++ [x]) c = eI E c := by unfold eI; rw [List.getD_eq_getElem?_getD, List.getD_eq_getElem?_getD, List.getElem?_append_left h]
theorem eI_new {E : List EE} {x : EE} : eI (E ++ [x]) E.length = x.2 := eI_of (by simp)
def RK (nV co : Nat) (R : Nat → Nat) (K : List KK) : Prop := co = K.length ∧ ∀ c t j, c < K.length → t < 3 → j < 60 → R (180 * c + 60 * t + j) = kS (kAt K c) t j ∧ kS (kAt K c) t j < 97 ∧ (nV ≤ j → kS (kAt K c) t j = 0)
def RV (va : Nat) (Hw Fr Gn : Nat → Nat) (V : List VV) (K : List KK) : Prop := va = V.length ∧ 1 ≤ V.length ∧ (vAt V 0).1 = 0 ∧ ∀ v, 1 ≤ v → v < V.length → (vAt V v).1 = Hw v + 1 ∧ Hw v ≤ 4 ∧ Gn v = (vAt V v).2.2.2 ∧ (vAt V v).2.2.2 < 97 ∧ (Hw v ≠ 0 → Fr v < K.length ∧ (∀ j, j < 60 → (vAt V v).2.1 j = (kAt K (Fr v)).1 j) ∧ (∀ j, v ≤ j → j < 60 → (vAt V v).2.1 j = 0) ∧ (Hw v = 1 → (∀ j, j < 60 → (vAt V v).2.2.1 j = (kAt K (Fr v)).2.1 j) ∧ ∀ j, v ≤ j → j < 60 → (vAt V v).2.2.1 j = 0))
def ct1 (f : Nat → Nat) : Nat → Nat
  | 0 => 0
  | n + 1 => ct1 f n + (if f n = 1 then 1 else 0)
def RE (nV ex : Nat) (S Kd In : Nat → Nat) (E : List EE) (inp : Nat) : Prop := ex = E.length ∧ (∀ e j, e < E.length → j < 60 → S (60 * e + j) = sE E e j ∧ sE E e j < 97 ∧ (nV ≤ j → sE E e j = 0)) ∧ (∀ e, e < E.length → (Kd e = 1 ↔ eI E e ≠ 0) ∧ (eI E e ≠ 0 → In e = eI E e) ∧ Kd e ≤ 9 ∧ eI E e < nV) ∧ inp = ct1 Kd E.length
def RW (sv kn kc : Nat) (W w : Nat → Nat) (wV wC : Nat) (K : List KK) : Prop := kn = wV ∧ kc = wC ∧ sv = (if 0 < wV then 1 else 0) ∧ (∀ j, j < wV → W j = w j) ∧ (∀ j, j < 60 → W j < 97) ∧ wC ≤ K.length ∧ wV ≤ 60 ∧ ∀ c t j, c < wC → t < 3 → wV ≤ j → j < 60 → kS (kAt K c) t j = 0
def MRel (st : MS) (V : List VV) (E : List EE) (K : List KK) (inp : Nat) (w : Nat → Nat) (wV wC : Nat) : Prop := RK V.length st.co st.R K ∧ RV st.va st.Hw st.Fr st.Gn V K ∧ RE V.length st.ex st.S st.Kd st.In E inp ∧ RW st.sv st.kn st.kc st.W w wV wC K
theorem RK.add {nV nV2 co : Nat} {R R2 : Nat → Nat} {K : List KK} {x : KK} (h : RK nV co R K) (hn : nV ≤ nV2) (h1 : ∀ c t j, c < K.length → t < 3 → j < 60 → R2 (180 * c + 60 * t + j) = R (180 * c + 60 * t + j)) (h2 : ∀ t j, t < 3 → j < 60 → R2 (180 * K.length + 60 * t + j) = kS x t j ∧ kS x t j < 97 ∧ (nV2 ≤ j → kS x t j = 0)) : RK nV2 (co + 1) R2 (K ++ [x]) := by
  obtain ⟨e, g⟩ := h
  refine ⟨by rw [e]; simp, ?_⟩
  intro c t j hc ht hj
  by_cases q : c < K.length
  · rw [kAt_app q, h1 c t j q ht hj]
    obtain ⟨g1, g2, g3⟩ := g c t j q ht hj
    exact ⟨g1, g2, fun hv => g3 (by omega)⟩
  · have : c = K.length := by simp at hc; omega
    subst this
    rw [kAt_new]
    exact h2 t j ht hj
theorem RK.mono {nV nV2 co : Nat} {R : Nat → Nat} {K : List KK} (h : RK nV co R K) (hn : nV ≤ nV2) : RK nV2 co R K := ⟨h.1, fun c t j hc ht hj => ⟨(h.2 c t j hc ht hj).1, (h.2 c t j hc ht hj).2.1, fun q => (h.2 c t j hc ht hj).2.2 (by omega)⟩⟩
theorem RV.mono {va : Nat} {Hw Fr Gn : Nat → Nat} {V : List VV} {K : List KK} {x : KK} (h : RV va Hw Fr Gn V K) : RV va Hw Fr Gn V (K ++ [x]) := by
  obtain ⟨e, e1, e2, g⟩ := h
  refine ⟨e, e1, e2, fun v h1 h2 => ?_⟩
  obtain ⟨g1, g2, g3, g4, g5⟩ := g v h1 h2
  refine ⟨g1, g2, g3, g4, fun q => ?_⟩
  obtain ⟨k1, k2, k3, k4⟩ := g5 q
  refine ⟨by simp; omega, ?_, k3, ?_⟩
  · rw [kAt_app k1]; exact k2
  · rw [kAt_app k1]; exact k4
theorem RV.add {va y c : Nat} {Hw Fr Gn : Nat → Nat} {V : List VV} {K : List KK} {x : VV} (h : RV va Hw Fr Gn V K) (hx : x.1 = y + 1) (hy : y ≤ 4) (hg : x.2.2.2 = 0) (hf : y ≠ 0 → c < K.length ∧ (∀ j, j < 60 → x.2.1 j = (kAt K c).1 j) ∧ (∀ j, V.length ≤ j → j < 60 → x.2.1 j = 0) ∧ (y = 1 → (∀ j, j < 60 → x.2.2.1 j = (kAt K c).2.1 j) ∧ ∀ j, V.length ≤ j → j < 60 → x.2.2.1 j = 0)) : RV (va + 1) (va_up Hw va y) (va_up Fr va c) (va_up Gn va 0) (V ++ [x]) K := by
  obtain ⟨e, e1, e2, g⟩ := h
  subst e
  refine ⟨by simp, by simp, by rw [vAt_app (by omega)]; exact e2, fun v h1 h2 => ?_⟩
  by_cases q : v < V.length
  · rw [vAt_app q, up_lt q, up_lt q, up_lt q]
    exact g v h1 q
  · have : v = V.length := by simp at h2; omega
    subst this
    rw [vAt_new, up_at, up_at, up_at]
    exact ⟨hx, hy, hg.symm, by omega, hf⟩
theorem RE.mono {nV nV2 ex inp : Nat} {S Kd In : Nat → Nat} {E : List EE} (h : RE nV ex S Kd In E inp) (hn : nV ≤ nV2) : RE nV2 ex S Kd In E inp :=
  ⟨h.1, fun e j he hj => ⟨(h.2.1 e j he hj).1, (h.2.1 e j he hj).2.1, fun q => (h.2.1 e j he hj).2.2 (by omega)⟩, fun e he => ⟨(h.2.2.1 e he).1, (h.2.2.1 e he).2.1, (h.2.2.1 e he).2.2.1, by have := (h.2.2.1 e he).2.2.2; omega⟩, h.2.2.2⟩
theorem ct1_congr {f g : Nat → Nat} : ∀ n, (∀ j, j < n → f j = g j) → ct1 f n = ct1 g n := by
  intro n
  induction n with
  | zero => intro _; rfl
  | succ n ih => intro h; show ct1 f n + _ = ct1 g n + _; rw [ih (fun j hj => h j (by omega)), h n (by omega)]
theorem ct1_le (f : Nat → Nat) : ∀ n, ct1 f n ≤ n := by
  intro n
  induction n with
  | zero => exact Nat.le_refl 0
  | succ n ih => show ct1 f n + _ ≤ _; split <;> omega
theorem RE.In {nV ex inp v : Nat} {S Kd In : Nat → Nat} {E : List EE} (h : RE nV ex S Kd In E inp) : RE nV ex S Kd (va_up In ex v) E inp := by
  obtain ⟨e, g1, g2, g3⟩ := h
  subst e
  refine ⟨rfl, g1, fun e he => ?_, g3⟩
  rw [up_lt he]
  exact g2 e he
theorem RE.add {nV ex inp kd : Nat} {S Kd In L f : Nat → Nat} {E : List EE} {i : Nat} (h : RE nV ex S Kd In E inp) (hL : ∀ j, j < 60 → L j = f j) (hf : ∀ j, j < 60 → f j < 97) (hs : ∀ j, nV ≤ j → j < 60 → f j = 0) (hi : kd = 1 ↔ i ≠ 0) (hi2 : i ≠ 0 → In ex = i) (hk : kd ≤ 9) (hn : i < nV) : RE nV (ex + 1) (ovb 60 (60 * ex) S L) (va_up Kd ex kd) In (E ++ [(f, i)]) (inp + if kd = 1 then 1 else 0) := by
  obtain ⟨e, g1, g2, g3⟩ := h
  subst e
  refine ⟨by simp, fun e j he hj => ?_, fun e he => ?_, ?_⟩
  · by_cases q : e < E.length
    · rw [sE_app q, ovb_out (by omega)]
      exact g1 e j q hj
    · have : e = E.length := by simp at he; omega
      subst this
      rw [sE_new, ovb_in hj]
      exact ⟨hL j hj, hf j hj, fun q => hs j q hj⟩
  · by_cases q : e < E.length
    · rw [eI_app q, up_lt q]
      exact g2 e q
    · have : e = E.length := by simp at he; omega
      subst this
      rw [eI_new, up_at]
      exact ⟨hi, hi2, hk, hn⟩
  · have e9 : (E ++ [(f, i)]).length = E.length + 1 := by simp
    rw [e9]
    show _ = ct1 (va_up Kd E.length kd) E.length + (if va_up Kd E.length kd E.length = 1 then 1 else 0)
    rw [up_at, ct1_congr E.length (fun j hj => up_lt hj), ← g3]
theorem RW.mono {sv kn kc wV wC : Nat} {W w : Nat → Nat} {K : List KK} {x : KK} (h : RW sv kn kc W w wV wC K) : RW sv kn kc W w wV wC (K ++ [x]) := by
  obtain ⟨h1, h2, h3, h4, h5, h6, h8, h7⟩ := h
  refine ⟨h1, h2, h3, h4, h5, by simp; omega, h8, fun c t j hc ht hv hj => ?_⟩
  rw [kAt_app (by omega)]
  exact h7 c t j hc ht hv hj
theorem kS_lt3 {x : KK} {t j : Nat} {P : Nat → Prop} (ht : t < 3) (h0 : P (x.1 j)) (h1 : P (x.2.1 j)) (h2 : P (x.2.2 j)) : P (kS x t j) := by
  have : t = 0 ∨ t = 1 ∨ t = 2 := by omega
  rcases this with rfl | rfl | rfl
  · exact h0
  · exact h1
  · exact h2
/-- one variable and one constraint more -/
theorem MRel.prod {st : MS} {V : List VV} {E : List EE} {K : List KK} {inp : Nat} {w : Nat → Nat} {wV wC : Nat} (h : MRel st V E K inp w wV wC) {f g L T : Nat → Nat} {R2 : Nat → Nat} (bf : ∀ j, j < 60 → f j < 97) (bg : ∀ j, j < 60 → g j < 97) (sf : ∀ j, V.length ≤ j → j < 60 → f j = 0) (sg : ∀ j, V.length ≤ j → j < 60 → g j = 0)
    (h1 : ∀ c t j, c < K.length → t < 3 → j < 60 → R2 (180 * c + 60 * t + j) = st.R (180 * c + 60 * t + j)) (h20 : ∀ j, j < 60 → R2 (180 * K.length + j) = f j) (h21 : ∀ j, j < 60 → R2 (180 * K.length + 60 + j) = g j) (h22 : ∀ j, j < 60 → R2 (180 * K.length + 120 + j) = unit V.length j) (bV : V.length < 60) :
    RK (V.length + 1) (st.co + 1) R2 (K ++ [(f, g, unit V.length)]) ∧ RV (st.va + 1) (va_up st.Hw st.va 1) (va_up st.Fr st.va st.co) (va_up st.Gn st.va 0) (V ++ [(2, f, g, 0)]) (K ++ [(f, g, unit V.length)]) := by
  obtain ⟨rk, rv, re, rw'⟩ := h
  constructor
  · refine rk.add (by omega) h1 (fun t j ht hj => ?_)
    have : t = 0 ∨ t = 1 ∨ t = 2 := by omega
    rcases this with rfl | rfl | rfl
    · exact ⟨h20 j hj, bf j hj, fun q => sf j (by omega) hj⟩
    · exact ⟨h21 j hj, bg j hj, fun q => sg j (by omega) hj⟩
    · exact ⟨h22 j hj, unit_lt _ _, fun q => by show unit V.length j = 0; unfold unit; rw [if_neg (by omega)]⟩
  · refine RV.add rv.mono rfl (by decide) rfl (fun _ => ⟨by simp; have := rk.1; omega, ?_, sf, fun _ => ⟨?_, sg⟩⟩)
    · rw [rk.1, kAt_new]; exact fun _ _ => rfl
    · rw [rk.1, kAt_new]; exact fun _ _ => rfl
