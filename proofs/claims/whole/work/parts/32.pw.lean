/-! weights, dues -/
theorem xsel_lt {a b : Nat} (ha : a < 2 ^ 31) (hb : b < 2 ^ 31) : (if nI a < nI b then nI a else nI b) = nI (min a b) := by
  by_cases h : a < b
  · rw [if_pos (nI_lt h hb), Nat.min_eq_left (by omega)]
  · rw [if_neg (by rw [nI_ltI ha hb]; exact h), Nat.min_eq_right (by omega)]
theorem xdays {a b : Nat} (ha : a < 2 ^ 30) (hb : b < 2 ^ 30) : (if nI a - nI b < nI 0 then nI 0 else nI a - nI b) = nI (a - b) := by
  by_cases h : b ≤ a
  · rw [pk_sub h, if_neg (by rw [nI_ltI (by omega) (by decide)]; omega)]
  · rw [if_pos (show nI a - nI b < nI 0 from pk_sneg hb (by omega))]
    congr 1; omega
theorem e_daysIn {τ : CT} {k y f u : Nat} (hf : cI τ 22 k = nI f) (hu : cI τ 23 k = nI u) (h1 : f < 2 ^ 29) (h2 : u < 2 ^ 29) (hy : y < 20) : fX1_daysIn τ k y = nI (min ((y + 1) * 100) u - max f (y * 100)) := by
  unfold fX1_daysIn
  rw [hf, hu]
  have e1 : (if nI ((y + 1) * 100) < nI u then nI ((y + 1) * 100) else nI u) = nI (min ((y + 1) * 100) u) := xsel_lt (by omega) (by omega)
  have e2 : (if nI f < nI (y * 100) then nI (y * 100) else nI f) = nI (max f (y * 100)) := by
    by_cases h : f < y * 100
    · rw [if_pos (nI_lt h (by omega)), Nat.max_eq_right (by omega)]
    · rw [if_neg (by rw [nI_ltI (by omega) (by omega)]; exact h), Nat.max_eq_left (by omega)]
  rw [e1, e2]
  exact xdays (by omega) (by omega)
theorem e_wS {σ : MT} {τ : CT} (hN : RelN σ τ) (hS : RelS σ τ) (hE : RelE σ τ) (hW : CW τ) {m y k a : Nat} (hm : m < 12) (hy : y < 20) (hk : k < cN τ 2) : ∃ b, b ≤ a + 99900 ∧ fX8_weightOf_S5 σ m y k (lN a) = lN b ∧ fX7_weightIn_S5 τ m y k (lN a) = lN b := by
  have w := hW.1
  obtain ⟨e1, f, f1, f2, f3, f4⟩ := hE k hk
  have hs := hW.2.2.1 k hk
  obtain ⟨s1, s2, t, t1, t2, t3⟩ := hS (cK τ 11 k) hs
  have ho := hW.2.1 _ hs
  have key : ∃ u, u ≤ 2000 ∧ cI τ 23 k = nI u ∧ (if mI σ 14 k = -1 then nI (100 * y + 100) else if nI (100 * y + 100) ≤ mI σ 14 k then nI (100 * y + 100) else mI σ 14 k) = nI (min ((y + 1) * 100) u) := by
    rcases f4 with ⟨g1, g2⟩ | ⟨u, g1, g2, g3⟩
    · refine ⟨2000, Nat.le_refl _, g2, ?_⟩
      rw [if_pos g1]; congr 1; omega
    · refine ⟨u, by omega, g3, ?_⟩
      have hne : ¬ nI u = -1 := by
        intro z
        have z2 := congrArg Int32.toInt z
        rw [nI_toInt (by omega)] at z2
        have : (-1 : Int32).toInt = -1 := by decide
        omega
      rw [g2, if_neg hne]
      by_cases h : 100 * y + 100 ≤ u
      · rw [if_pos (nI_le h (by omega))]; congr 1; omega
      · rw [if_neg (by rw [nI_leI (by omega) (by omega)]; exact h)]; congr 1; omega
  obtain ⟨u, u1, u2, u3⟩ := key
  have hd := e_daysIn (y := y) f3 u2 (by omega) (by omega) hy
  have e42 : (if mI σ 13 k ≤ nI (100 * y) then nI (100 * y) else mI σ 13 k) = nI (max f (y * 100)) := by
    rw [f2]
    by_cases h : f ≤ 100 * y
    · rw [if_pos (nI_le h (by omega))]; congr 1; omega
    · rw [if_neg (by rw [nI_leI (by omega) (by omega)]; exact h)]; congr 1; omega
  unfold fX8_weightOf_S5 fX8_weightOf_B42 fX8_weightOf_B88 fX8_weightOf_B118 fX8_weightOf_B150 fX7_weightIn_S5
  rw [e42, u3, hd, e1, s1, s2, t3]
  by_cases ho2 : cK τ 10 (cK τ 11 k) = m
  · rw [if_pos ho2, if_pos (congrArg nI ho2)]
    by_cases hl : min ((y + 1) * 100) u ≤ max f (y * 100)
    · rw [if_pos (nI_le hl (by omega)), if_pos (show nI 0 = 0 from rfl)]
      refine ⟨a, by omega, lN_add a 0, ?_⟩
      rw [show min ((y + 1) * 100) u - max f (y * 100) = 0 by omega, nI_l (by omega), nI_l (by decide), lN_mul, lN_add]
      congr 1
    · have hc : ¬ nI (min ((y + 1) * 100) u) ≤ nI (max f (y * 100)) := by rw [nI_leI (by omega) (by omega)]; exact hl
      rw [show (if nI (min ((y + 1) * 100) u) ≤ nI (max f (y * 100)) then nI 0 else nI 1) = nI 1 from if_neg hc, if_neg n10, pk_sub (by omega)]
      rw [nI_l (by omega), nI_l (by omega), lN_mul, lN_add]
      refine ⟨_, ?_, rfl, rfl⟩
      have h9 : min ((y + 1) * 100) u - max f (y * 100) ≤ 100 := by omega
      have h8 := Nat.mul_le_mul t2 h9
      omega
  · have hc2 : ¬ nI (cK τ 10 (cK τ 11 k)) = nI m := by rw [nI_eq (by omega) (by omega)]; exact ho2
    simp only [if_neg hc2, if_neg ho2]
    rw [if_pos (show nI 0 = 0 from rfl)]
    exact ⟨a, by omega, lN_add a 0, rfl⟩
theorem e_weight {σ : MT} {τ : CT} (hN : RelN σ τ) (hM : RelM σ τ) (hS : RelS σ τ) (hE : RelE σ τ) (hW : CW τ) {m y : Nat} (hm : m < cN τ 0) (hy : y < 20) : ∃ w, w ≤ 30000000 ∧ fX8_weightOf σ m y = lN w ∧ fX7_weightIn τ m y = lN w := by
  have w := hW.1
  obtain ⟨⟨r1, q, q1, q2, q3⟩, -⟩ := (hM m (by omega) y hy).1 hm
  have L : ∀ n k a, k + n = cN τ 2 → a ≤ 99900 * k → ∃ w, w ≤ 30000000 ∧ fX8_weightOf_L5 σ m y n k (lN a) = lN w ∧ fX7_weightIn_L5 τ m y n k (lN a) = lN w := by
    intro n
    induction n with
    | zero =>
      intro k a hk ha
      simp only [fX8_weightOf_L5, fX7_weightIn_L5, fX3_rated]
      rw [r1, q3, nI_l (by omega), lN_mul]
      have h1 : a ≤ 99900 * 60 := by omega
      have h2 := Nat.mul_le_mul h1 q2
      refine ⟨a * q / 100, by omega, ?_, ?_⟩
      · exact pk_lDiv (b := 100) (by omega) (by decide) (by decide)
      · exact pk_lDiv (b := 100) (by omega) (by decide) (by decide)
    | succ n ih =>
      intro k a hk ha
      simp only [fX8_weightOf_L5, fX7_weightIn_L5, lseq]
      obtain ⟨b, b1, b2, b3⟩ := e_wS hN hS hE hW (a := a) (m := m) (y := y) (k := k) (by omega) hy (by omega)
      rw [b2, b3]
      exact ih (k + 1) b (by omega) (by omega)
  unfold fX8_weightOf fX7_weightIn
  rw [hN.2.2.2.1]
  exact L (cN τ 2) 0 0 (by omega) (by omega)
theorem e_shared {σ : MT} {τ : CT} (hN : RelN σ τ) (hM : RelM σ τ) (hS : RelS σ τ) (hE : RelE σ τ) (hW : CW τ) {m y : Nat} (hm : m < cN τ 0) (hy : y < 20) : fX8_weightOf σ m y = fX7_weightIn τ m y := by
  obtain ⟨w, -, h1, h2⟩ := e_weight hN hM hS hE hW hm hy
  rw [h1, h2]
theorem e_due {σ : MT} {τ : CT} (hR : Rel σ τ) (hW : CW τ) {m y : Nat} (hm : m < cN τ 0) (hy : y < 20) : fX8_dueOf σ m y = fX7_dueOf τ m y := by
  obtain ⟨hN, hB, hM, hP, hS, hE, hO, hC, hZ, hA, hV, hw, hU, hY⟩ := hR
  have w := hW.1
  obtain ⟨y1, y2, y3, -⟩ := hY y hy
  have hN34 := hN.2.2.2.2.2.2.2.1
  have hwt := e_shared hN hM hS hE hW hm hy
  obtain ⟨-, hf⟩ := (hM m (by omega) y hy).1 hm
  unfold fX8_dueOf fX7_dueOf fX8_dueOf_B41 fX7_dueOf_B21 fX8_base fX7_advanceOf
  rw [hwt, y1, y2]
  rcases hf with ⟨f1, f2, f3⟩ | ⟨f1, f2, f3⟩ | ⟨f1, f2, f3, f4⟩
  · rw [f1, f2, f3, if_pos (by decide), if_pos rfl]
    by_cases hc : mN σ 34 ≤ y
    · rw [if_pos (nI_le hc (by omega)), if_pos (y3.mpr hc)]
    · rw [if_neg (by rw [nI_leI (by omega) (by omega)]; exact hc), if_neg (fun z => hc (y3.mp z))]
      show (0 : Int64) + (0 * _) / 100 = 0
      rw [Int64.zero_mul]
      rfl
  · rw [f1, f2, f3, if_neg (by decide)]
    by_cases h : cI τ 33 y = 0
    · rw [if_pos h, if_neg (by decide)]
    · rw [if_neg h]
  · rw [f1, f2, f3, if_neg (by decide), if_neg (fun z => by have := y3.mp z; omega)]
theorem e_owes {σ : MT} {τ : CT} (hR : Rel σ τ) (hW : CW τ) {m : Nat} (hm : m < cN τ 0) : fX8_owesOf σ m = fX7_owedBy τ m := by
  have w := hW.1
  have L : ∀ n k a, k + n = 20 → fX8_owesOf_L11 σ m n k a = fX7_owedBy_L9 τ m n k a := by
    intro n
    induction n with
    | zero => intro k a hk; rfl
    | succ n ih =>
      intro k a hk
      simp only [fX8_owesOf_L11, fX7_owedBy_L9, lseq, fX8_owesOf_S11, fX7_owedBy_S9]
      rw [e_due hR hW hm (by omega)]
      exact ih _ _ (by omega)
  unfold fX8_owesOf fX7_owedBy
  rw [((hR.2.2.2.1 m (by omega)).1 hm).1]
  exact L 20 0 _ (by omega)
