/-! a year is closed -/
theorem i64_sgn (a b : Int64) (hb : ¬ b < 0) : (0 : Int64) ≤ a ^^^ b ↔ (0 : Int64) ≤ a := by
  have key : ∀ x : Int64, (0 : Int64) ≤ x ↔ x.toBitVec.msb = false := by
    intro x
    rw [Int64.le_iff_toInt_le]
    show (0 : Int) ≤ x.toBitVec.toInt ↔ _
    rw [BitVec.msb_eq_toInt]
    simp
  rw [key, key]
  have h2 : b.toBitVec.msb = false := (key b).mp (by rw [Int64.le_iff_toInt_le]; rw [Int64.lt_iff_toInt_lt] at hb; omega)
  rw [Int64.toBitVec_xor, BitVec.msb_xor, h2]
  simp
theorem e_down (p : Int64) {t : Nat} (h0 : 0 < t) (ht : t < 2 ^ 62) : fX8_down p (lN t) = fJ9_floorDiv_f86c9 p (lN t) := by
  have hT : (lN t).toInt = t := pk_lT (by omega)
  have hTn : ¬ lN t < 0 := by rw [Int64.lt_iff_toInt_lt, hT]; show ¬ (t : Int) < 0; omega
  have hp1 : -9223372036854775808 ≤ p.toInt := Int64.le_toInt p
  have hp2 : p.toInt < 9223372036854775808 := Int64.toInt_lt p
  have hna := Int.natAbs_tdiv_le_natAbs p.toInt t
  have hE : p.toInt.tmod t + t * p.toInt.tdiv t = p.toInt := Int.tmod_add_mul_tdiv p.toInt t
  have ht1 : (1 : Int) ≤ t := by omega
  have hsg : (0 ≤ p.toInt ∧ 0 ≤ p.toInt.tmod t ∧ 0 ≤ p.toInt.tdiv t ∧ 0 ≤ (t : Int) * p.toInt.tdiv t) ∨ (p.toInt < 0 ∧ p.toInt.tmod t ≤ 0 ∧ p.toInt.tdiv t ≤ 0 ∧ (t : Int) * p.toInt.tdiv t ≤ 0) := by
    by_cases h : 0 ≤ p.toInt
    · have h2 : 0 ≤ p.toInt.tdiv t := Int.tdiv_nonneg h (by omega)
      exact Or.inl ⟨h, Int.tmod_nonneg _ h, h2, Int.mul_nonneg (by omega) h2⟩
    · have h1 : 0 ≤ (-p.toInt).tdiv t := Int.tdiv_nonneg (by omega) (by omega)
      have h2 : 0 ≤ (-p.toInt).tmod t := Int.tmod_nonneg _ (by omega)
      rw [Int.neg_tdiv] at h1
      rw [Int.neg_tmod] at h2
      have h3 : 0 ≤ (t : Int) * -p.toInt.tdiv t := Int.mul_nonneg (by omega) h1
      rw [Int.mul_neg] at h3
      exact Or.inr ⟨by omega, by omega, by omega, by omega⟩
  have hdv : (p / lN t).toInt = p.toInt.tdiv t := by
    rw [Int64.toInt_div, hT]
    exact Int.bmod_eq_of_le (by omega) (by omega)
  have hmu : (p / lN t * lN t).toInt = (t : Int) * p.toInt.tdiv t := by
    rw [Int64.toInt_mul, hT, hdv, Int.mul_comm]
    exact Int.bmod_eq_of_le (by omega) (by omega)
  have hsu : (p - p / lN t * lN t).toInt = p.toInt.tmod t := by
    rw [Int64.toInt_sub, hmu]
    rw [show p.toInt - (t : Int) * p.toInt.tdiv t = p.toInt.tmod t by omega]
    exact Int.bmod_eq_of_le (by omega) (by omega)
  unfold fX8_down fJ9_floorDiv_f86c9
  have hx := i64_sgn p (lN t) hTn
  rcases hsg with ⟨s1, s2, s3, s4⟩ | ⟨s1, s2, s3, s4⟩
  · rw [if_pos (show (0 : Int64) ≤ p - p / lN t * lN t by rw [Int64.le_iff_toInt_le, hsu]; exact s2), if_pos (hx.mpr (by rw [Int64.le_iff_toInt_le]; exact s1))]
  · rw [if_neg (show ¬ (0 : Int64) ≤ p ^^^ lN t by rw [hx, Int64.le_iff_toInt_le]; show ¬ (0 : Int) ≤ p.toInt; omega)]
    by_cases h : p.toInt.tmod t = 0
    · rw [if_pos (show (0 : Int64) ≤ p - p / lN t * lN t by rw [Int64.le_iff_toInt_le, hsu, h]; exact Int.le_refl _)]
      rw [if_pos (show p / lN t * lN t = p from Int64.toInt_inj.mp (by rw [hmu]; omega))]
    · rw [if_neg (show ¬ (0 : Int64) ≤ p - p / lN t * lN t by rw [Int64.le_iff_toInt_le, hsu]; show ¬ (0 : Int) ≤ p.toInt.tmod t; omega)]
      rw [if_neg (show ¬ p / lN t * lN t = p from fun z => h (by have := congrArg Int64.toInt z; rw [hmu] at this; omega))]
/-! overlays -/
def ov (A : MT) (f : Nat → Int32) (g : Nat → Int64) : MT := (fun a b => if a = 6 then f b else A.1 a b, fun a b => if a = 7 then g b else A.2.1 a b, A.2.2)
def oc (τ : CT) (p : Nat → Int32) (d : Nat → Nat → Int64) : CT := (fun a b => if a = 28 then p b else τ.1 a b, τ.2.1, τ.2.2.1, τ.2.2.2.1, d)
theorem ov_self (A : MT) : ov A (mI A 6) (mL A 7) = A := by
  show (fun a b => if a = 6 then A.1 6 b else A.1 a b, fun a b => if a = 7 then A.2.1 7 b else A.2.1 a b, A.2.2) = (A.1, A.2.1, A.2.2)
  refine Prod.ext ?_ (Prod.ext ?_ rfl)
  · funext a b
    show (if a = 6 then A.1 6 b else A.1 a b) = A.1 a b
    split
    · rename_i h; rw [h]
    · rfl
  · funext a b
    show (if a = 7 then A.2.1 7 b else A.2.1 a b) = A.2.1 a b
    split
    · rename_i h; rw [h]
    · rfl
theorem ov_6 (A : MT) (f : Nat → Int32) (g : Nat → Int64) (i : Nat) (v : Int32) : mSI (ov A f g) 6 i v = ov A (fun b => if b = i then v else f b) g := by
  refine Prod.ext ?_ rfl
  funext a b
  show (if a = 6 ∧ b = i then v else if a = 6 then f b else A.1 a b) = if a = 6 then (if b = i then v else f b) else A.1 a b
  by_cases h : a = 6
  · by_cases h2 : b = i
    · rw [if_pos ⟨h, h2⟩, if_pos h, if_pos h2]
    · rw [if_neg (fun z => h2 z.2), if_pos h, if_pos h, if_neg h2]
  · rw [if_neg (fun z => h z.1), if_neg h, if_neg h]
theorem ov_7 (A : MT) (f : Nat → Int32) (g : Nat → Int64) (i : Nat) (v : Int64) : mSL (ov A f g) 7 i v = ov A f (fun b => if b = i then v else g b) := by
  refine Prod.ext rfl (Prod.ext ?_ rfl)
  funext a b
  show (if a = 7 ∧ b = i then v else if a = 7 then g b else A.2.1 a b) = if a = 7 then (if b = i then v else g b) else A.2.1 a b
  by_cases h : a = 7
  · by_cases h2 : b = i
    · rw [if_pos ⟨h, h2⟩, if_pos h, if_pos h2]
    · rw [if_neg (fun z => h2 z.2), if_pos h, if_pos h, if_neg h2]
  · rw [if_neg (fun z => h z.1), if_neg h, if_neg h]
theorem oc_self (τ : CT) : oc τ (cI τ 28) (cD τ) = τ := by
  refine Prod.ext ?_ rfl
  funext a b
  show (if a = 28 then τ.1 28 b else τ.1 a b) = τ.1 a b
  split
  · rename_i h; rw [h]
  · rfl
theorem oc_28 (τ : CT) (p : Nat → Int32) (d : Nat → Nat → Int64) (i : Nat) (v : Int32) : cSI (oc τ p d) 28 i v = oc τ (fun b => if b = i then v else p b) d := by
  refine Prod.ext ?_ rfl
  funext a b
  show (if a = 28 ∧ b = i then v else if a = 28 then p b else τ.1 a b) = if a = 28 then (if b = i then v else p b) else τ.1 a b
  by_cases h : a = 28
  · by_cases h2 : b = i
    · rw [if_pos ⟨h, h2⟩, if_pos h, if_pos h2]
    · rw [if_neg (fun z => h2 z.2), if_pos h, if_pos h, if_neg h2]
  · rw [if_neg (fun z => h z.1), if_neg h, if_neg h]
theorem oc_D (τ : CT) (p : Nat → Int32) (d : Nat → Nat → Int64) (m y : Nat) (v : Int64) : cSD (oc τ p d) m y v = oc τ p (fun b e => if b = m ∧ e = y then v else d b e) := rfl
theorem mSL_same (A : MT) (k j : Nat) : mSL A k j (mL A k j) = A := by
  refine Prod.ext rfl (Prod.ext ?_ rfl)
  funext a b
  show (if a = k ∧ b = j then A.2.1 k j else A.2.1 a b) = A.2.1 a b
  split
  · rename_i h; rw [h.1, h.2]
  · rfl
theorem cSL_same (τ : CT) (t i : Nat) : cSL τ t i (cL τ t i) = τ := by
  refine Prod.ext rfl (Prod.ext ?_ rfl)
  funext a b
  show (if a = t ∧ b = i then τ.2.1 t i else τ.2.1 a b) = τ.2.1 a b
  split
  · rename_i h; rw [h.1, h.2]
  · rfl
theorem wov (A : MT) (f : Nat → Int32) (g : Nat → Int64) (m y : Nat) : fX8_weightOf (ov A f g) m y = fX8_weightOf A m y := by
  have L : ∀ n k a, fX8_weightOf_L5 (ov A f g) m y n k a = fX8_weightOf_L5 A m y n k a := by
    intro n
    induction n with
    | zero => intro k a; rfl
    | succ n ih => intro k a; exact ih (k + 1) (fX8_weightOf_S5 A m y k a)
  exact L _ _ _
theorem woc (τ : CT) (p : Nat → Int32) (d : Nat → Nat → Int64) (m y : Nat) : fX7_weightIn (oc τ p d) m y = fX7_weightIn τ m y := by
  have L : ∀ n k a, fX7_weightIn_L5 (oc τ p d) m y n k a = fX7_weightIn_L5 τ m y n k a := by
    intro n
    induction n with
    | zero => intro k a; rfl
    | succ n ih => intro k a; exact ih (k + 1) (fX7_weightIn_S5 τ m y k a)
  exact L _ _ _
theorem shoc (τ : CT) (p : Nat → Int32) (d : Nat → Nat → Int64) (m y : Nat) : fX7_isShared (oc τ p d) m y = fX7_isShared τ m y := by
  unfold fX7_isShared
  rw [woc]
  rfl
/-! the shares -/
def wn (τ : CT) (y k : Nat) : Nat := (fX7_weightIn τ k y).toInt.toNat
abbrev sh (τ : CT) (y k : Nat) : Prop := cM τ 1 k y = 0 ∧ 0 < wn τ y k
theorem e_wn {σ : MT} {τ : CT} (hR : Rel σ τ) (hW : CW τ) {y k : Nat} (hy : y < 20) (hk : k < cN τ 0) : fX8_weightOf σ k y = lN (wn τ y k) ∧ fX7_weightIn τ k y = lN (wn τ y k) ∧ wn τ y k ≤ 30000000 ∧ (fX8_weightOf σ k y ≤ (0 : Int64) ↔ wn τ y k = 0) := by
  obtain ⟨hN, hB, hM, hP, hS, hE, hO, hC, hZ, hA, hV, hw, hU, hY⟩ := hR
  obtain ⟨w, w1, w2, w3⟩ := e_weight hN hM hS hE hW hk hy
  have e : wn τ y k = w := by unfold wn; rw [w3, pk_lT (by omega)]; rfl
  rw [e]
  refine ⟨w2, w3, w1, ?_⟩
  rw [w2]
  have : lN w ≤ lN 0 ↔ w ≤ 0 := pk_lLE (by omega) (by omega)
  exact this.trans (by omega)
theorem e_sh {σ : MT} {τ : CT} (hR : Rel σ τ) (hW : CW τ) {y k : Nat} (hy : y < 20) (hk : k < cN τ 0) : (sh τ y k ∧ ¬ fX7_isShared τ k y = 0) ∨ (¬ sh τ y k ∧ fX7_isShared τ k y = 0) := by
  obtain ⟨w1, w2, w3, w4⟩ := e_wn hR hW hy hk
  unfold sh fX7_isShared
  rw [w1, ← w2] at w4
  by_cases h : cM τ 1 k y = 0
  · rw [if_pos h]
    by_cases h2 : fX7_weightIn τ k y ≤ (0 : Int64)
    · rw [if_pos h2]; have := w4.mp h2; exact Or.inr ⟨fun z => by omega, rfl⟩
    · rw [if_neg h2]; exact Or.inl ⟨⟨h, by have : ¬ wn τ y k = 0 := fun z => h2 (w4.mpr z); omega⟩, n10⟩
  · rw [if_neg h]; exact Or.inr ⟨fun z => h z.1, rfl⟩
def tot (τ : CT) (y : Nat) : Nat → Nat → Nat
  | 0, _ => 0
  | n + 1, k => (if sh τ y k then wn τ y k else 0) + tot τ y n (k + 1)
theorem tot_0 (τ : CT) (y : Nat) : ∀ n k, tot τ y n k = 0 → ∀ j, k ≤ j → j < k + n → ¬ sh τ y j := by
  intro n
  induction n with
  | zero => intro k _ j h1 h2; omega
  | succ n ih =>
    intro k h j h1 h2
    simp only [tot] at h
    by_cases hj : j = k
    · subst hj
      intro z
      rw [if_pos z] at h
      have := z.2
      omega
    · exact ih (k + 1) (by omega) j (by omega) (by omega)
theorem p6_s (A : MT) (th : Int32) (x : Int64) (y n k : Nat) (a : Int64) : fX8_parts_L6 A th x y (n + 1) k a = fX8_parts_L6 A th x y n (k + 1) (if (mI A 6 (20 * k + y)) = 0 then (a + (fX8_weightOf A k y)) else (a + (0 : Int64))) := rfl
theorem s6_s (τ : CT) (y : Nat) (x : Int64) (n k : Nat) (a : Int64) : fX7_share_L6 τ y x (n + 1) k a = fX7_share_L6 τ y x n (k + 1) (if (fX7_isShared τ k y) = 0 then a else (a + (fX7_weightIn τ k y))) := rfl
theorem mI6 {A : MT} {τ : CT} (hR : Rel A τ) {y k : Nat} (hy : y < 20) (h34 : mN A 34 = y) (hk : k < cN τ 0) (hW : CW τ) : (mI A 6 (20 * k + y) = 0 ∧ cM τ 1 k y = 0 ∧ cD τ k y = 0) ∨ (mI A 6 (20 * k + y) = 1 ∧ cM τ 1 k y = 1 ∧ cD τ k y = mL A 7 (20 * k + y)) := by
  have w := hW.1
  obtain ⟨hN, hB, hM, -⟩ := hR
  rcases ((hM k (by omega) y hy).1 hk).2 with h | h | ⟨-, -, -, h⟩
  · exact Or.inl h
  · exact Or.inr h
  · omega
theorem e_tot {A : MT} {τ : CT} (hR : Rel A τ) (hW : CW τ) (th : Int32) (x : Int64) {y : Nat} (hy : y < 20) (h34 : mN A 34 = y) : ∀ n k a, k + n = cN τ 0 → fX8_parts_L6 A th x y n k (lN a) = fX8_parts_L6 A th x y 0 0 (lN (a + tot τ y n k)) ∧ fX7_share_L6 τ y x n k (lN a) = fX7_share_L6 τ y x 0 0 (lN (a + tot τ y n k)) ∧ tot τ y n k ≤ 30000000 * n := by
  intro n
  induction n with
  | zero => intro k a _; exact ⟨rfl, rfl, Nat.le_refl _⟩
  | succ n ih =>
    intro k a hk
    have hk0 : k < cN τ 0 := by omega
    obtain ⟨w1, w2, w3, w4⟩ := e_wn hR hW hy hk0
    have e : tot τ y (n + 1) k = (if sh τ y k then wn τ y k else 0) + tot τ y n (k + 1) := rfl
    have h6 := mI6 hR hy h34 hk0 hW
    rw [p6_s, s6_s, e, ← Nat.add_assoc]
    have key : (if (mI A 6 (20 * k + y)) = 0 then (lN a + (fX8_weightOf A k y)) else (lN a + (0 : Int64))) = lN (a + if sh τ y k then wn τ y k else 0) ∧ (if (fX7_isShared τ k y) = 0 then lN a else (lN a + (fX7_weightIn τ k y))) = lN (a + if sh τ y k then wn τ y k else 0) := by
      rw [w1, w2, lN_add]
      rcases e_sh hR hW hy hk0 with ⟨g1, g2⟩ | ⟨g1, g2⟩
      · rw [if_neg g2, if_pos g1]
        rcases h6 with ⟨q1, -⟩ | ⟨q1, q2, -⟩
        · rw [if_pos q1]; exact ⟨rfl, rfl⟩
        · exact absurd g1.1 (by rw [q2]; decide)
      · rw [if_pos g2, if_neg g1, Nat.add_zero]
        refine ⟨?_, rfl⟩
        rcases h6 with ⟨q1, q2, -⟩ | ⟨q1, q2, -⟩
        · have hz : wn τ y k = 0 := by
            rcases Nat.eq_zero_or_pos (wn τ y k) with z | z
            · exact z
            · exact absurd ⟨q2, z⟩ g1
          rw [if_pos q1, hz, Nat.add_zero]
        · rw [if_neg (by rw [q1]; decide), Int64.add_zero]
    rw [key.1, key.2]
    obtain ⟨i1, i2, i3⟩ := ih (k + 1) (a + if sh τ y k then wn τ y k else 0) (by omega)
    refine ⟨i1, i2, ?_⟩
    split <;> omega
def Pk (A : MT) (τ : CT) (y k : Nat) (f : Nat → Int32) (g : Nat → Int64) (d : Nat → Nat → Int64) : Prop :=
  (∀ m, m < cN τ 0 → (m < k → sh τ y m → f (20 * m + y) = nI 2 ∧ d m y = g (20 * m + y)) ∧ (¬ (m < k ∧ sh τ y m) → f (20 * m + y) = mI A 6 (20 * m + y) ∧ g (20 * m + y) = mL A 7 (20 * m + y) ∧ d m y = cD τ m y)) ∧
  (∀ b, (∀ m, m < cN τ 0 → b ≠ 20 * m + y) → f b = mI A 6 b ∧ g b = mL A 7 b) ∧ (∀ m e, (e ≠ y ∨ cN τ 0 ≤ m) → d m e = cD τ m e)
theorem Pk.start (A : MT) (τ : CT) (y : Nat) : Pk A τ y 0 (mI A 6) (mL A 7) (cD τ) := ⟨fun m _ => ⟨fun h => absurd h (by omega), fun _ => ⟨rfl, rfl, rfl⟩⟩, fun _ _ => ⟨rfl, rfl⟩, fun _ _ _ => rfl⟩
theorem Pk.no {A : MT} {τ : CT} {y k : Nat} {f : Nat → Int32} {g : Nat → Int64} {d : Nat → Nat → Int64} (h : Pk A τ y k f g d) (hs : ¬ sh τ y k) : Pk A τ y (k + 1) f g d := by
  obtain ⟨h1, h2, h3⟩ := h
  refine ⟨fun m hm => ⟨fun q1 q2 => ?_, fun q => ?_⟩, h2, h3⟩
  · have : m ≠ k := fun z => hs (z ▸ q2)
    exact (h1 m hm).1 (by omega) q2
  · exact (h1 m hm).2 (fun z => q ⟨by omega, z.2⟩)
theorem Pk.yes {A : MT} {τ : CT} {y k : Nat} {f : Nat → Int32} {g : Nat → Int64} {d : Nat → Nat → Int64} (h : Pk A τ y k f g d) (hk : k < cN τ 0) (hs : sh τ y k) (v : Int64) : Pk A τ y (k + 1) (fun b => if b = 20 * k + y then nI 2 else f b) (fun b => if b = 20 * k + y then v else g b) (fun b e => if b = k ∧ e = y then v else d b e) := by
  obtain ⟨h1, h2, h3⟩ := h
  refine ⟨fun m hm => ?_, fun b hb => ?_, fun m e he => ?_⟩
  · show (m < k + 1 → sh τ y m → (if 20 * m + y = 20 * k + y then nI 2 else f (20 * m + y)) = nI 2 ∧ (if m = k ∧ y = y then v else d m y) = (if 20 * m + y = 20 * k + y then v else g (20 * m + y))) ∧ (¬ (m < k + 1 ∧ sh τ y m) → (if 20 * m + y = 20 * k + y then nI 2 else f (20 * m + y)) = mI A 6 (20 * m + y) ∧ (if 20 * m + y = 20 * k + y then v else g (20 * m + y)) = mL A 7 (20 * m + y) ∧ (if m = k ∧ y = y then v else d m y) = cD τ m y)
    by_cases hmk : m = k
    · subst hmk
      rw [if_pos (show 20 * m + y = 20 * m + y from rfl), if_pos (show m = m ∧ y = y from ⟨rfl, rfl⟩), if_pos (show 20 * m + y = 20 * m + y from rfl)]
      exact ⟨fun _ _ => ⟨rfl, rfl⟩, fun q => absurd ⟨by omega, hs⟩ q⟩
    · rw [if_neg (show ¬ 20 * m + y = 20 * k + y by omega), if_neg (show ¬ (m = k ∧ y = y) from fun z => hmk z.1), if_neg (show ¬ 20 * m + y = 20 * k + y by omega)]
      exact ⟨fun q1 q2 => (h1 m hm).1 (by omega) q2, fun q => (h1 m hm).2 (fun z => q ⟨by omega, z.2⟩)⟩
  · have hne := hb k hk
    show (if b = 20 * k + y then nI 2 else f b) = mI A 6 b ∧ (if b = 20 * k + y then v else g b) = mL A 7 b
    rw [if_neg hne, if_neg hne]; exact h2 b hb
  · show (if m = k ∧ e = y then v else d m e) = cD τ m e
    rw [if_neg (fun z => by rcases he with he | he; exact he z.2; omega)]; exact h3 m e he
theorem Pk.inc {A : MT} {τ : CT} {y k : Nat} {f : Nat → Int32} {g : Nat → Int64} {d : Nat → Nat → Int64} (h : Pk A τ y (cN τ 0) f g d) (hk : k < cN τ 0) (hs : sh τ y k) : Pk A τ y (cN τ 0) f (fun b => if b = 20 * k + y then g (20 * k + y) + 1 else g b) (fun b e => if b = k ∧ e = y then d k y + 1 else d b e) := by
  obtain ⟨h1, h2, h3⟩ := h
  refine ⟨fun m hm => ?_, fun b hb => ?_, fun m e he => ?_⟩
  · show (m < cN τ 0 → sh τ y m → f (20 * m + y) = nI 2 ∧ (if m = k ∧ y = y then d k y + 1 else d m y) = (if 20 * m + y = 20 * k + y then g (20 * k + y) + 1 else g (20 * m + y))) ∧ (¬ (m < cN τ 0 ∧ sh τ y m) → f (20 * m + y) = mI A 6 (20 * m + y) ∧ (if 20 * m + y = 20 * k + y then g (20 * k + y) + 1 else g (20 * m + y)) = mL A 7 (20 * m + y) ∧ (if m = k ∧ y = y then d k y + 1 else d m y) = cD τ m y)
    by_cases hmk : m = k
    · subst hmk
      rw [if_pos (show 20 * m + y = 20 * m + y from rfl), if_pos (show m = m ∧ y = y from ⟨rfl, rfl⟩)]
      obtain ⟨g1, g2⟩ := (h1 m hm).1 hm hs
      exact ⟨fun _ _ => ⟨g1, by rw [g2]⟩, fun q => absurd ⟨hm, hs⟩ q⟩
    · rw [if_neg (show ¬ (m = k ∧ y = y) from fun z => hmk z.1), if_neg (show ¬ 20 * m + y = 20 * k + y by omega)]
      exact h1 m hm
  · have hne := hb k hk
    show f b = mI A 6 b ∧ (if b = 20 * k + y then g (20 * k + y) + 1 else g b) = mL A 7 b
    rw [if_neg hne]; exact h2 b hb
  · show (if m = k ∧ e = y then d k y + 1 else d m e) = cD τ m e
    rw [if_neg (fun z => by rcases he with he | he; exact he z.2; omega)]; exact h3 m e he
theorem upd_same (g : Nat → Int64) (i : Nat) : (fun b => if b = i then g i + 0 else g b) = g := by
  funext b
  split
  · rename_i h; rw [h, Int64.add_zero]
  · rfl
theorem p76_s (A : MT) (th : Int32) (x : Int64) (y : Nat) (T : Int64) (n k : Nat) (a : Int64) (σ1 : MT) : fX8_parts_L76 A th x y T (n + 1) k a σ1 = fX8_parts_L76 A th x y T n (k + 1) (fX8_parts_S76 A th x y T k a σ1).1 (fX8_parts_S76 A th x y T k a σ1).2 := rfl
theorem s77_s (τ : CT) (y : Nat) (x T : Int64) (n k : Nat) (a : Int64) (τ1 : CT) : fX7_share_L77 τ y x T (n + 1) k a τ1 = fX7_share_L77 τ y x T n (k + 1) (fX7_share_S77 τ y x T k a τ1).1 (fX7_share_S77 τ y x T k a τ1).2 := rfl
theorem e_l76 {A : MT} {τ : CT} (hR : Rel A τ) (hW : CW τ) (th : Int32) (x : Int64) {y t : Nat} (hy : y < 20) (h34 : mN A 34 = y) (h0 : 0 < t) (ht : t < 2 ^ 62) : ∀ n k a f g d, k + n = cN τ 0 → Pk A τ y k f g d → ∃ a2 f2 g2 d2, Pk A τ y (cN τ 0) f2 g2 d2 ∧ fX8_parts_L76 A th x y (lN t) n k a (ov A f g) = fX8_parts_L76 A th x y (lN t) 0 0 a2 (ov A f2 g2) ∧ fX7_share_L77 τ y x (lN t) n k a (oc τ (cI τ 28) d) = fX7_share_L77 τ y x (lN t) 0 0 a2 (oc τ (cI τ 28) d2) := by
  intro n
  induction n with
  | zero => intro k a f g d hk hP; exact ⟨a, f, g, d, (show k = cN τ 0 by omega) ▸ hP, rfl, rfl⟩
  | succ n ih =>
    intro k a f g d hk hP
    have hk0 : k < cN τ 0 := by omega
    obtain ⟨w1, w2, w3, w4⟩ := e_wn hR hW hy hk0
    have h6 := mI6 hR hy h34 hk0 hW
    obtain ⟨f6, f7, f8⟩ := (hP.1 k hk0).2 (fun z => by omega)
    rw [p76_s, s77_s]
    have e1 : mI (ov A f g) 6 (20 * k + y) = f (20 * k + y) := rfl
    rcases e_sh hR hW hy hk0 with ⟨g1, g2⟩ | ⟨g1, g2⟩
    · have hf0 : f (20 * k + y) = 0 := by
        rcases h6 with ⟨q1, -⟩ | ⟨q1, q2, -⟩
        · rw [f6]; exact q1
        · exact absurd g1.1 (by rw [q2]; decide)
      have hwp : ¬ fX8_weightOf A k y ≤ (0 : Int64) := fun z => by have := w4.mp z; have := g1.2; omega
      have s8 : fX8_parts_S76 A th x y (lN t) k a (ov A f g) = (a - fX8_down (x * lN (wn τ y k)) (lN t), ov A (fun b => if b = 20 * k + y then nI 2 else f b) (fun b => if b = 20 * k + y then fX8_down (x * lN (wn τ y k)) (lN t) else g b)) := by
        unfold fX8_parts_S76
        rw [e1, if_pos hf0, if_pos hf0, wov, if_neg hwp, if_neg hwp, ov_7, ov_6, w1]
        refine Prod.ext ?_ rfl
        show a - (if (7 : Nat) = 7 then (if 20 * k + y = 20 * k + y then fX8_down (x * lN (wn τ y k)) (lN t) else g (20 * k + y)) else A.2.1 7 (20 * k + y)) = _
        rw [if_pos rfl, if_pos rfl]
      have s7 : fX7_share_S77 τ y x (lN t) k a (oc τ (cI τ 28) d) = (a - fX8_down (x * lN (wn τ y k)) (lN t), oc τ (cI τ 28) (fun b e => if b = k ∧ e = y then fX8_down (x * lN (wn τ y k)) (lN t) else d b e)) := by
        unfold fX7_share_S77
        rw [shoc, if_neg g2, if_neg g2, woc, w2, e_down _ h0 ht]
        rfl
      rw [s8, s7]
      exact ih (k + 1) _ _ _ _ (by omega) (hP.yes hk0 g1 _)
    · have s8 : fX8_parts_S76 A th x y (lN t) k a (ov A f g) = (a, ov A f g) := by
        unfold fX8_parts_S76
        rw [e1, wov]
        rcases h6 with ⟨q1, q2, -⟩ | ⟨q1, q2, -⟩
        · have hz : wn τ y k = 0 := by
            rcases Nat.eq_zero_or_pos (wn τ y k) with z | z
            · exact z
            · exact absurd ⟨q2, z⟩ g1
          rw [f6, if_pos q1, if_pos q1, if_pos (w4.mpr hz), if_pos (w4.mpr hz)]
        · rw [f6, if_neg (by rw [q1]; decide), if_neg (by rw [q1]; decide)]
      have s7 : fX7_share_S77 τ y x (lN t) k a (oc τ (cI τ 28) d) = (a, oc τ (cI τ 28) d) := by
        unfold fX7_share_S77
        rw [shoc, if_pos g2, if_pos g2]
      rw [s8, s7]
      exact ih (k + 1) _ _ _ _ (by omega) (hP.no g1)
theorem p166_s (A : MT) (th : Int32) (x : Int64) (y n k : Nat) (a : Int64) (σ1 : MT) : fX8_parts_L166 A th x y (n + 1) k a σ1 = if a ≤ (0 : Int64) then (σ1, th) else fX8_parts_L166 A th x y n (k + 1) (if (mI σ1 6 (20 * k + y)) = (nI 2) then (a - (1 : Int64)) else (a - (0 : Int64))) (if (mI σ1 6 (20 * k + y)) = (nI 2) then (mSL σ1 7 (20 * k + y) ((mL σ1 7 (20 * k + y)) + (1 : Int64))) else (mSL σ1 7 (20 * k + y) ((mL σ1 7 (20 * k + y)) + (0 : Int64)))) := by
  show lbind (fX8_parts_S166 A th x y k a σ1) (fun q => fX8_parts_L166 A th x y n (k + 1) q.1 q.2) = _
  unfold fX8_parts_S166
  by_cases h : a ≤ (0 : Int64)
  · rw [if_pos h, if_pos h]; rfl
  · rw [if_neg h, if_neg h]; rfl
theorem so6_s (τ : CT) (y : Nat) (x : Int64) (n k : Nat) (a : Int64) (τ1 : CT) : fX7_shareOneEach_L6 τ y x (n + 1) k a τ1 = if a ≤ (0 : Int64) then τ1 else fX7_shareOneEach_L6 τ y x n (k + 1) (if (fX7_isShared τ1 k y) = 0 then a else (a - (1 : Int64))) (if (fX7_isShared τ1 k y) = 0 then τ1 else (cSD τ1 k y ((cD τ1 k y) + (1 : Int64)))) := by
  show lbind (fX7_shareOneEach_S6 τ y x k a τ1) (fun q => fX7_shareOneEach_L6 τ y x n (k + 1) q.1 q.2) = _
  unfold fX7_shareOneEach_S6
  by_cases h : a ≤ (0 : Int64)
  · rw [if_pos h, if_pos h]; rfl
  · rw [if_neg h, if_neg h]; rfl
theorem e_l166 {A : MT} {τ : CT} (hR : Rel A τ) (hW : CW τ) (th : Int32) (x x2 : Int64) (τ0 : CT) {y : Nat} (hy : y < 20) (h34 : mN A 34 = y) : ∀ n k a f g d, k + n = cN τ 0 → Pk A τ y (cN τ 0) f g d → ∃ f2 g2 d2, Pk A τ y (cN τ 0) f2 g2 d2 ∧ fX8_parts_L166 A th x y n k a (ov A f g) = (ov A f2 g2, th) ∧ fX7_shareOneEach_L6 τ0 y x2 n k a (oc τ (cI τ 28) d) = oc τ (cI τ 28) d2 := by
  intro n
  induction n with
  | zero => intro k a f g d hk hP; exact ⟨f, g, d, hP, rfl, rfl⟩
  | succ n ih =>
    intro k a f g d hk hP
    have hk0 : k < cN τ 0 := by omega
    have h6 := mI6 hR hy h34 hk0 hW
    rw [p166_s, so6_s]
    by_cases ha : a ≤ (0 : Int64)
    · rw [if_pos ha, if_pos ha]; exact ⟨f, g, d, hP, rfl, rfl⟩
    · rw [if_neg ha, if_neg ha]
      have e1 : mI (ov A f g) 6 (20 * k + y) = f (20 * k + y) := rfl
      have e2 : mL (ov A f g) 7 (20 * k + y) = g (20 * k + y) := rfl
      have e3 : cD (oc τ (cI τ 28) d) k y = d k y := rfl
      rw [e1, e2, e3, shoc, ov_7, ov_7, oc_D]
      rcases e_sh hR hW hy hk0 with ⟨g1, g2⟩ | ⟨g1, g2⟩
      · have hf := ((hP.1 k hk0).1 hk0 g1).1
        rw [if_pos hf, if_pos hf, if_neg g2, if_neg g2]
        exact ih (k + 1) _ _ _ _ (by omega) (hP.inc hk0 g1)
      · have hf : ¬ f (20 * k + y) = nI 2 := by
          rw [((hP.1 k hk0).2 (fun z => g1 z.2)).1]
          rcases h6 with ⟨q1, -⟩ | ⟨q1, -⟩
          · rw [q1]; decide
          · rw [q1]; decide
        rw [if_neg hf, if_neg hf, if_pos g2, if_pos g2, upd_same, Int64.sub_zero]
        exact ih (k + 1) _ _ _ _ (by omega) hP
theorem e_parts {A : MT} {τ : CT} (hR : Rel A τ) (hW : CW τ) (th : Int32) (x : Int64) {y : Nat} (hy : y < 20) (h34 : mN A 34 = y) : ∃ v f g d, Pk A τ y (cN τ 0) f g d ∧ fX8_parts A th x y = (ov (mSL A 35 0 v) f g, th) ∧ fX7_share τ y x = oc (cSL τ 0 0 v) (cI τ 28) d := by
  have w := hW.1
  have n2 : mN A 2 = cN τ 0 := hR.1.2.1
  have n7 : mL A 35 0 = cL τ 0 0 := hR.1.2.2.2.2.2.2.1
  unfold fX8_parts fX7_share
  rw [n2]
  obtain ⟨t1, t2, t3⟩ := e_tot hR hW th x hy h34 (cN τ 0) 0 0 (by omega)
  rw [Nat.zero_add] at t1 t2
  have t1' : fX8_parts_L6 A th x y (cN τ 0) 0 (0 : Int64) = fX8_parts_L6 A th x y 0 0 (lN (tot τ y (cN τ 0) 0)) := t1
  have t2' : fX7_share_L6 τ y x (cN τ 0) 0 (0 : Int64) = fX7_share_L6 τ y x 0 0 (lN (tot τ y (cN τ 0) 0)) := t2
  have e1 : ∀ T, fX8_parts_L6 A th x y 0 0 T = (if T = (0 : Int64) then ((mSL A 35 0 ((mL A 35 0) - x)), th) else (fX8_parts_L76 A th x y T (mN A 2) 0 x A)) := fun _ => rfl
  have e2 : ∀ T, fX7_share_L6 τ y x 0 0 T = (if (0 : Int64) < T then (fX7_share_L77 τ y x T (cN τ 0) 0 x τ) else (cSL τ 0 0 ((cL τ 0 0) - x))) := fun _ => rfl
  rw [t1', t2', e1, e2, n2]
  by_cases hz : tot τ y (cN τ 0) 0 = 0
  · have hno := tot_0 τ y (cN τ 0) 0 hz
    rw [hz]
    rw [if_pos (show lN 0 = (0 : Int64) from rfl), if_neg (show ¬ (0 : Int64) < lN 0 by decide)]
    refine ⟨cL τ 0 0 - x, mI A 6, mL A 7, cD τ, ⟨fun m hm => ⟨fun _ z => absurd z (hno m (by omega) (by omega)), fun _ => ⟨rfl, rfl, rfl⟩⟩, fun _ _ => ⟨rfl, rfl⟩, fun _ _ _ => rfl⟩, ?_, ?_⟩
    · rw [n7]
      have := ov_self (mSL A 35 0 (cL τ 0 0 - x))
      exact Prod.ext this.symm rfl
    · exact (oc_self (cSL τ 0 0 (cL τ 0 0 - x))).symm
  · have h1 : ¬ lN (tot τ y (cN τ 0) 0) = (0 : Int64) := by
      have : lN (tot τ y (cN τ 0) 0) = lN 0 ↔ tot τ y (cN τ 0) 0 = 0 := pk_lEQ (by omega) (by omega)
      exact fun z => hz (this.mp z)
    have h2 : (0 : Int64) < lN (tot τ y (cN τ 0) 0) := by
      have : lN 0 < lN (tot τ y (cN τ 0) 0) ↔ 0 < tot τ y (cN τ 0) 0 := pk_lLT (by omega) (by omega)
      exact this.mpr (by omega)
    rw [if_neg h1, if_pos h2]
    obtain ⟨a2, f2, g2, d2, hP2, q1, q2⟩ := e_l76 hR hW th x hy h34 (t := tot τ y (cN τ 0) 0) (by omega) (by omega) (cN τ 0) 0 x (mI A 6) (mL A 7) (cD τ) (by omega) (Pk.start A τ y)
    rw [ov_self] at q1
    rw [oc_self] at q2
    rw [q1, q2]
    have e3 : fX8_parts_L76 A th x y (lN (tot τ y (cN τ 0) 0)) 0 0 a2 (ov A f2 g2) = fX8_parts_L166 A th x y (mN A 2) 0 a2 (ov A f2 g2) := rfl
    have e4 : fX7_share_L77 τ y x (lN (tot τ y (cN τ 0) 0)) 0 0 a2 (oc τ (cI τ 28) d2) = fX7_shareOneEach_L6 (oc τ (cI τ 28) d2) y a2 (cN τ 0) 0 a2 (oc τ (cI τ 28) d2) := rfl
    rw [e3, e4, n2]
    obtain ⟨f3, g3, d3, hP3, q3, q4⟩ := e_l166 hR hW th x a2 (oc τ (cI τ 28) d2) hy h34 (cN τ 0) 0 a2 f2 g2 d2 (by omega) hP2
    rw [q3, q4]
    refine ⟨cL τ 0 0, f3, g3, d3, hP3, ?_, ?_⟩
    · rw [← n7, mSL_same]
    · rw [cSL_same]
