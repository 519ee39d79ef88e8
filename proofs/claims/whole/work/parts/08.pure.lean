/-! the field's numbers -/
def rm (x : Int32) : Nat := (x.toInt % 97).toNat
theorem rm_lt (x : Int32) : rm x < 97 := by unfold rm; omega
theorem rm_nat {n : Nat} (h : n < 2 ^ 31) : rm (nI n) = n % 97 := by unfold rm; rw [nI_toInt h]; omega
theorem n97 : (nI 97).toInt = 97 := nI_toInt (by decide)
theorem xor97 (x : Int32) : 0 ≤ (x ^^^ nI 97) ↔ 0 ≤ x.toInt := by
  rw [Int32.le_iff_toInt_le, Int32.toInt_zero]
  have h2 : (x.toBitVec ^^^ (nI 97).toBitVec).msb = x.toBitVec.msb := by
    rw [BitVec.msb_xor, show (nI 97).toBitVec.msb = false by decide]
    simp
  rw [BitVec.msb_eq_toInt, BitVec.msb_eq_toInt] at h2
  have h1 : (x ^^^ nI 97).toInt = (x.toBitVec ^^^ (nI 97).toBitVec).toInt := rfl
  have h3 : x.toInt = x.toBitVec.toInt := rfl
  rw [h1, h3]
  have h4 := decide_eq_decide.mp h2
  omega
theorem rem97 (x : Int32) : (x - x / nI 97 * nI 97).toInt = x.toInt.tmod 97 := by rw [rem_toInt, n97]
theorem tm97 (z : Int) : ∃ k : Int, z = 97 * k + z.tmod 97 ∧ -97 < z.tmod 97 ∧ z.tmod 97 < 97 ∧ (0 ≤ z → 0 ≤ z.tmod 97) ∧ (z < 0 → z.tmod 97 ≤ 0) := by
  refine ⟨z.tdiv 97, by rw [Int.mul_tdiv_add_tmod], (tmod_bounds (by decide)).1, (tmod_bounds (by decide)).2, fun h => Int.tmod_nonneg 97 h, fun h => ?_⟩
  have h1 : (-z).tmod 97 = -(z.tmod 97) := Int.neg_tmod ..
  have h2 : 0 ≤ (-z).tmod 97 := Int.tmod_nonneg 97 (by omega)
  omega
theorem rm_toInt (x : Int32) : (nI (rm x)).toInt = x.toInt % 97 := by
  rw [nI_toInt (by have := rm_lt x; omega)]
  unfold rm
  omega
theorem fm_a {x : Int32} (h : 0 ≤ x ^^^ nI 97) : x - x / nI 97 * nI 97 = nI (rm x) := by
  have h0 := (xor97 x).mp h
  apply Int32.toInt_inj.mp
  rw [rem97, rm_toInt]
  obtain ⟨k, h1, h2, h3, h4, h5⟩ := tm97 x.toInt
  have := h4 h0
  omega
theorem fm_b {x : Int32} (hr : x - x / nI 97 * nI 97 = 0) : x - x / nI 97 * nI 97 = nI (rm x) := by
  have h0 := congrArg Int32.toInt hr
  rw [rem97, Int32.toInt_zero] at h0
  apply Int32.toInt_inj.mp
  rw [rem97, rm_toInt]
  obtain ⟨k, h1, h2, h3, h4, h5⟩ := tm97 x.toInt
  omega
theorem fm_c {x : Int32} (h : ¬ 0 ≤ x ^^^ nI 97) (hr : ¬ x - x / nI 97 * nI 97 = 0) : x - x / nI 97 * nI 97 + nI 97 = nI (rm x) := by
  have h0 : ¬ 0 ≤ x.toInt := fun q => h ((xor97 x).mpr q)
  have hr' : x.toInt.tmod 97 ≠ 0 := fun q => hr (Int32.toInt_inj.mp (by rw [rem97, q, Int32.toInt_zero]))
  obtain ⟨k, h1, h2, h3, h4, h5⟩ := tm97 x.toInt
  have h6 := h5 (by omega)
  apply Int32.toInt_inj.mp
  rw [Int32.toInt_add, rem97, n97, rm_toInt, Int.bmod_eq_of_le (by omega) (by omega)]
  omega
theorem rest97 (x : Int32) : (x - x / nI 97 * nI 97 + nI 97) - (x - x / nI 97 * nI 97 + nI 97) / nI 97 * nI 97 = nI (rm x) := by
  obtain ⟨k, h1, h2, h3, h4, h5⟩ := tm97 x.toInt
  have e1 : (x - x / nI 97 * nI 97 + nI 97).toInt = x.toInt.tmod 97 + 97 := by rw [Int32.toInt_add, rem97, n97, Int.bmod_eq_of_le (by omega) (by omega)]
  apply Int32.toInt_inj.mp
  rw [rem97, e1, rm_toInt, Int.tmod_eq_emod_of_nonneg (by omega)]
  omega
def sm (f w : Nat → Nat) : Nat → Nat
  | 0 => 0
  | n + 1 => sm f w n + f n * w n
def vl (f w : Nat → Nat) : Nat := sm f w 60 % 97
theorem sm_le {f w : Nat → Nat} (hf : ∀ j, j < 60 → f j < 97) (hw : ∀ j, j < 60 → w j < 97) : ∀ n, n ≤ 60 → sm f w n ≤ n * 9216 := by
  intro n
  induction n with
  | zero => intro _; simp [sm]
  | succ n ih =>
    intro h
    have h1 := ih (by omega)
    have h2 : f n * w n ≤ 96 * 96 := Nat.mul_le_mul (by have := hf n (by omega); omega) (by have := hw n (by omega); omega)
    show sm f w n + f n * w n ≤ _
    omega
theorem vl_lt (f w : Nat → Nat) : vl f w < 97 := Nat.mod_lt _ (by decide)
def cmb (p : Nat) (f : Nat → Nat) (q : Nat) (g : Nat → Nat) : Nat → Nat := fun j => (p * f j + q * g j) % 97
theorem cmb_lt {p q : Nat} {f g : Nat → Nat} (j : Nat) : cmb p f q g j < 97 := Nat.mod_lt _ (by decide)
/-- how many of the first n coefficients are not 0 -/
def nz (f : Nat → Nat) : Nat → Nat
  | 0 => 0
  | n + 1 => nz f n + (if f n = 0 then 0 else 1)
theorem nz_le (f : Nat → Nat) : ∀ n, nz f n ≤ n := by
  intro n
  induction n with
  | zero => exact Nat.le_refl 0
  | succ n ih => show nz f n + _ ≤ _; split <;> omega
/-- the last variable below n+1 with a coefficient, 0 if none but perhaps 0 has one -/
def lastV (f : Nat → Nat) : Nat → Nat
  | 0 => 0
  | n + 1 => if f (n + 1) = 0 then lastV f n else n + 1
def isK (f : Nat → Nat) : Prop := ∀ j, 0 < j → j < 60 → f j = 0
theorem lastV_le (f : Nat → Nat) : ∀ n, lastV f n ≤ n := by
  intro n
  induction n with
  | zero => exact Nat.le_refl 0
  | succ n ih => show (if f (n + 1) = 0 then lastV f n else n + 1) ≤ n + 1; split <;> omega
theorem lastV_0 {f : Nat → Nat} : ∀ n, lastV f n = 0 ↔ ∀ j, 0 < j → j ≤ n → f j = 0 := by
  intro n
  induction n with
  | zero => exact ⟨fun _ j h1 h2 => by omega, fun _ => rfl⟩
  | succ n ih =>
    show (if f (n + 1) = 0 then lastV f n else n + 1) = 0 ↔ _
    split
    · rename_i h
      rw [ih]
      constructor
      · intro q j h1 h2
        rcases Nat.eq_or_lt_of_le h2 with e | e
        · rw [e]; exact h
        · exact q j h1 (by omega)
      · intro q j h1 h2
        exact q j h1 (by omega)
    · rename_i h
      constructor
      · intro q; omega
      · intro q; exact absurd (q (n + 1) (by omega) (Nat.le_refl _)) h
theorem isK_last {f : Nat → Nat} : lastV f 59 = 0 ↔ isK f := by
  rw [lastV_0]
  exact ⟨fun h j h1 h2 => h j h1 (by omega), fun h j h1 h2 => h j h1 (by omega)⟩
/-- the inverse, looked for from k on -/
def invF (v : Nat) : Nat → Nat → Nat
  | 0, _ => 0
  | n + 1, k => if v * k % 97 = 1 then k else invF v n (k + 1)
def inv97 (v : Nat) : Nat := invF v 96 1
theorem invF_lt (v : Nat) : ∀ n k, k + n ≤ 97 → invF v n k < 97 := by
  intro n
  induction n with
  | zero => intro k _; exact (by decide : 0 < 97)
  | succ n ih =>
    intro k h
    show (if v * k % 97 = 1 then k else invF v n (k + 1)) < 97
    split
    · omega
    · exact ih (k + 1) (by omega)
theorem inv97_lt (v : Nat) : inv97 v < 97 := invF_lt v 96 1 (by decide)
