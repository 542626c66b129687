/-! a year is closed -/
section JA9
variable {t : Nat} {σ : LT} {τ : CT} {q12 : Int64} {n14 n15 n16 n17 : Nat}
theorem i64_sgn (a b : Int64) (hb : ¬ b < 0) : (0 : Int64) ≤ a ^^^ b ↔ (0 : Int64) ≤ a := by
  have key : ∀ x : Int64, (0 : Int64) ≤ x ↔ x.toBitVec.msb = false := by
    intro x
    rw [Int64.le_iff_toInt_le]
    show (0 : Int) ≤ x.toBitVec.toInt ↔ _
    rw [BitVec.msb_eq_toInt]
    simp
  rw [key, key]
  have h2 : b.toBitVec.msb = false := (key b).mp (by rw [Int64.le_iff_toInt_le]; rw [Int64.lt_iff_toInt_lt] at hb; omega)
  rw [Int64.toBitVec_xor, BitVec.msb_xor, h2]
  simp
def lDown (p t : Int64) : Int64 := if (0 : Int64) ≤ p - p / t * t then p / t else p / t - (1 : Int64)
theorem e_down (p : Int64) {t : Nat} (h0 : 0 < t) (ht : t < 2 ^ 62) : lDown p (lN t) = fJ9_floorDiv_f86c9 p (lN t) := by
  have hT : (lN t).toInt = t := pk_lT (by omega)
  have hTn : ¬ lN t < 0 := by rw [Int64.lt_iff_toInt_lt, hT]; show ¬ (t : Int) < 0; omega
  have hp1 : -9223372036854775808 ≤ p.toInt := Int64.le_toInt p
  have hp2 : p.toInt < 9223372036854775808 := Int64.toInt_lt p
  have hna := Int.natAbs_tdiv_le_natAbs p.toInt t
  have hE : p.toInt.tmod t + t * p.toInt.tdiv t = p.toInt := Int.tmod_add_mul_tdiv p.toInt t
  have ht1 : (1 : Int) ≤ t := by omega
  have hsg : (0 ≤ p.toInt ∧ 0 ≤ p.toInt.tmod t ∧ 0 ≤ p.toInt.tdiv t ∧ 0 ≤ (t : Int) * p.toInt.tdiv t) ∨ (p.toInt < 0 ∧ p.toInt.tmod t ≤ 0 ∧ p.toInt.tdiv t ≤ 0 ∧ (t : Int) * p.toInt.tdiv t ≤ 0) := by
    by_cases h : 0 ≤ p.toInt
    · have h2 : 0 ≤ p.toInt.tdiv t := Int.tdiv_nonneg h (by omega)
      exact Or.inl ⟨h, Int.tmod_nonneg _ h, h2, Int.mul_nonneg (by omega) h2⟩
    · have h1 : 0 ≤ (-p.toInt).tdiv t := Int.tdiv_nonneg (by omega) (by omega)
      have h2 : 0 ≤ (-p.toInt).tmod t := Int.tmod_nonneg _ (by omega)
      rw [Int.neg_tdiv] at h1
      rw [Int.neg_tmod] at h2
      have h3 : 0 ≤ (t : Int) * -p.toInt.tdiv t := Int.mul_nonneg (by omega) h1
      rw [Int.mul_neg] at h3
      exact Or.inr ⟨by omega, by omega, by omega, by omega⟩
  have hdv : (p / lN t).toInt = p.toInt.tdiv t := by
    rw [Int64.toInt_div, hT]
    exact Int.bmod_eq_of_le (by omega) (by omega)
  have hmu : (p / lN t * lN t).toInt = (t : Int) * p.toInt.tdiv t := by
    rw [Int64.toInt_mul, hT, hdv, Int.mul_comm]
    exact Int.bmod_eq_of_le (by omega) (by omega)
  have hsu : (p - p / lN t * lN t).toInt = p.toInt.tmod t := by
    rw [Int64.toInt_sub, hmu]
    rw [show p.toInt - (t : Int) * p.toInt.tdiv t = p.toInt.tmod t by omega]
    exact Int.bmod_eq_of_le (by omega) (by omega)
  unfold lDown fJ9_floorDiv_f86c9
  have hx := i64_sgn p (lN t) hTn
  rcases hsg with ⟨s1, s2, s3, s4⟩ | ⟨s1, s2, s3, s4⟩
  · rw [if_pos (show (0 : Int64) ≤ p - p / lN t * lN t by rw [Int64.le_iff_toInt_le, hsu]; exact s2), if_pos (hx.mpr (by rw [Int64.le_iff_toInt_le]; exact s1))]
  · rw [if_neg (show ¬ (0 : Int64) ≤ p ^^^ lN t by rw [hx, Int64.le_iff_toInt_le]; show ¬ (0 : Int) ≤ p.toInt; omega)]
    by_cases h : p.toInt.tmod t = 0
    · rw [if_pos (show (0 : Int64) ≤ p - p / lN t * lN t by rw [Int64.le_iff_toInt_le, hsu, h]; exact Int.le_refl _)]
      rw [if_pos (show p / lN t * lN t = p from Int64.toInt_inj.mp (by rw [hmu]; omega))]
    · rw [if_neg (show ¬ (0 : Int64) ≤ p - p / lN t * lN t by rw [Int64.le_iff_toInt_le, hsu]; show ¬ (0 : Int) ≤ p.toInt.tmod t; omega)]
      rw [if_neg (show ¬ p / lN t * lN t = p from fun z => h (by have := congrArg Int64.toInt z; rw [hmu] at this; omega))]
theorem dn_b {X : Int64} {w T : Nat} (hX : -5000000000 ≤ X.toInt ∧ X.toInt ≤ 5000000000) (hw : w ≤ T) (hT0 : 0 < T) (hT : T ≤ 100000000) : -5000000001 ≤ (lDown (X * lN w) (lN T)).toInt ∧ (lDown (X * lN w) (lN T)).toInt ≤ 5000000001 := by
  have hTi : (lN T).toInt = T := pk_lT (by omega)
  have hwi : (lN w).toInt = w := pk_lT (by omega)
  have hw1 : (w : Int) ≤ 100000000 := by omega
  have hab : (X.toInt * (w : Int)).natAbs = X.toInt.natAbs * w := by rw [Int.natAbs_mul, Int.natAbs_natCast]
  have hXn : X.toInt.natAbs ≤ 5000000000 := by omega
  have hpb : X.toInt.natAbs * w ≤ 5000000000 * 100000000 := Nat.mul_le_mul hXn (by omega)
  have hp : (X * lN w).toInt = X.toInt * w := by
    rw [Int64.toInt_mul, hwi]
    exact Int.bmod_eq_of_le (by omega) (by omega)
  have hdn : ((X * lN w).toInt.tdiv T).natAbs ≤ 5000000000 := by
    rw [Int.natAbs_tdiv, hp, hab, Int.natAbs_natCast]
    refine Nat.le_trans (Nat.div_le_of_le_mul ?_) hXn
    rw [Nat.mul_comm]
    exact Nat.mul_le_mul hw (Nat.le_refl _)
  have hdv : (X * lN w / lN T).toInt = (X * lN w).toInt.tdiv T := by
    rw [Int64.toInt_div, hTi]
    exact Int.bmod_eq_of_le (by omega) (by omega)
  unfold lDown
  split
  · rw [hdv]; omega
  · have := lE_sub (b := (1 : Int64)) (B := 1) hdv rfl (by omega) (by omega)
    rw [this]; omega
/-! the class with other dues -/
def cWD (τ : CT) (d : Nat → Nat → Int64) : CT := (τ.1, τ.2.1, τ.2.2.1, τ.2.2.2.1, d)
theorem cWD_w (τ : CT) (d : Nat → Nat → Int64) (m y : Nat) : fX7_weightIn (cWD τ d) m y = fX7_weightIn τ m y := by
  have L : ∀ n k a, fX7_weightIn_L5 (cWD τ d) m y n k a = fX7_weightIn_L5 τ m y n k a := by
    intro n
    induction n with
    | zero => intro k a; rfl
    | succ n ih => intro k a; exact ih _ _
  exact L _ _ _
theorem cWD_s (τ : CT) (d : Nat → Nat → Int64) (m y : Nat) : fX7_isShared (cWD τ d) m y = fX7_isShared τ m y := by
  unfold fX7_isShared
  rw [cWD_w]
  rfl
def SX (σ : LT) (τ : CT) (F : Nat) (σk : LT) (τk : CT) : Prop := σk.2.2 = σ.2.2 ∧ (∀ a b, (a ≠ 7 ∨ 9 ≤ b ∨ b % 3 ≠ F) → lI σk a b = lI σ a b) ∧ (∀ a b, (a ≠ 8 ∨ b % 3 ≠ F) → lL σk a b = lL σ a b) ∧ ∃ d, τk = cWD τ d ∧ ∀ m y, y ≠ F → d m y = cD τ m y
theorem SX.step {F : Nat} {σk : LT} {τk : CT} (h : SX σ τ F σk τk) {k : Nat} (hk : k < 3) (hF : F < 3) (v : Int64) (u : Int32) : SX σ τ F (lSI (lSL σk 8 (3 * k + F) v) 7 (3 * k + F) u) (cSD τk k F v) := by
  obtain ⟨h1, h2, h3, d, h4, h5⟩ := h
  refine ⟨h1, fun a b hab => ?_, fun a b hab => ?_, fun m y => if m = k ∧ y = F then v else d m y, ?_, fun m y hy => ?_⟩
  · rw [lSI_I, if_neg (by omega)]; exact h2 a b hab
  · show (if a = 8 ∧ b = 3 * k + F then v else lL σk a b) = _
    rw [if_neg (by omega)]; exact h3 a b hab
  · rw [h4]; rfl
  · show (if m = k ∧ y = F then v else d m y) = _
    rw [if_neg (by omega)]; exact h5 m y hy
theorem SX.step1 {F : Nat} {σk : LT} {τk : CT} (h : SX σ τ F σk τk) {k : Nat} (v : Int64) : SX σ τ F (lSL σk 8 (3 * k + F) v) (cSD τk k F v) ∨ ¬ F < 3 := by
  by_cases hF : F < 3
  · refine Or.inl ?_
    obtain ⟨h1, h2, h3, d, h4, h5⟩ := h
    refine ⟨h1, fun a b hab => h2 a b hab, fun a b hab => ?_, fun m y => if m = k ∧ y = F then v else d m y, ?_, fun m y hy => ?_⟩
    · show (if a = 8 ∧ b = 3 * k + F then v else lL σk a b) = _
      rw [if_neg (by omega)]; exact h3 a b hab
    · rw [h4]; rfl
    · show (if m = k ∧ y = F then v else d m y) = _
      rw [if_neg (by omega)]; exact h5 m y hy
  · exact Or.inr hF
theorem SX.sh {F : Nat} {σk : LT} {τk : CT} (h : SX σ τ F σk τk) (m y : Nat) : fX7_isShared τk m y = fX7_isShared τ m y ∧ fX7_weightIn τk m y = fX7_weightIn τ m y := by
  obtain ⟨h1, h2, h3, d, h4, h5⟩ := h
  rw [h4]; exact ⟨cWD_s _ _ _ _, cWD_w _ _ _ _⟩
theorem SX.w {F : Nat} {σk : LT} {τk : CT} (h : SX σ τ F σk τk) (n14 m y : Nat) : fL_weight σk n14 m y = fL_weight σ n14 m y := w_congr (fun a b => show σk.2.2 a b = σ.2.2 a b by rw [h.1]) _ _ _
/-- one member's row of the year that closes -/
def pP (τ : CT) (F : Nat) (B : Int) (m : Nat) (σk : LT) (τk : CT) : Prop := ((lI σk 7 (3 * m + F) = nI 0 ∧ cM τ 1 m F = 0 ∧ fX7_isShared τ m F = 0 ∧ cD τk m F = 0) ∨ (lI σk 7 (3 * m + F) = nI 1 ∧ cM τ 1 m F = 1 ∧ fX7_isShared τ m F = 0 ∧ cD τk m F = lL σk 8 (3 * m + F)) ∨ (lI σk 7 (3 * m + F) = nI 2 ∧ cM τ 1 m F = 0 ∧ ¬ fX7_isShared τ m F = 0 ∧ cD τk m F = lL σk 8 (3 * m + F))) ∧ -B ≤ (lL σk 8 (3 * m + F)).toInt ∧ (lL σk 8 (3 * m + F)).toInt ≤ B
theorem pP.mono {F : Nat} {B B1 : Int} {m : Nat} {σk : LT} {τk : CT} (h : pP τ F B m σk τk) (hB : B ≤ B1) : pP τ F B1 m σk τk := ⟨h.1, by have := h.2.1; omega, by have := h.2.2; omega⟩
theorem pP.far {F : Nat} {B : Int} {m k : Nat} {σk : LT} {τk : CT} (h : pP τ F B m σk τk) (hmk : m ≠ k) (v : Int64) (u : Int32) : pP τ F B m (lSI (lSL σk 8 (3 * k + F) v) 7 (3 * k + F) u) (cSD τk k F v) := by
  unfold pP
  rw [lSI_I, if_neg (by omega), show lL (lSI (lSL σk 8 (3 * k + F) v) 7 (3 * k + F) u) 8 (3 * m + F) = lL σk 8 (3 * m + F) from if_neg (by omega), cSD_D, if_neg (by omega)]
  exact h
theorem pP.far1 {F : Nat} {B : Int} {m k : Nat} {σk : LT} {τk : CT} (h : pP τ F B m σk τk) (hmk : m ≠ k) (v : Int64) : pP τ F B m (lSL σk 8 (3 * k + F) v) (cSD τk k F v) := by
  unfold pP
  rw [lSL_I, lSL_L, if_neg (by omega), cSD_D, if_neg (by omega)]
  exact h
end JA9
