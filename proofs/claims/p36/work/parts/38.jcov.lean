/-! coverage -/
theorem cov_eq {t : Nat} {σ : LT} {τ : CT} {q12 : Int64} {n14 n15 n16 n17 : Nat} (hJ : J t σ τ q12 n14 n15 n16 n17) (hW : LW σ) (hC : CW τ) {c : Nat} (hc : c < n15) : fX7_isCovered τ c = fL_covered σ n14 c := by
  obtain ⟨⟨a0, a1, a2, a3, a4, a5, a6, b1, b2, b3, b4, b5⟩, hM, hP, hS, hE, -, hJC, -, -, -, hY, -⟩ := hJ
  obtain ⟨c1, c2, c3, c4, c5, c6, c7, c8, c9, c10, c11, c12⟩ := hJC.1 c hc
  have hs := hW.2.2.1 c
  obtain ⟨s1, s2, s3⟩ := hS _ hs
  have hm := hW.2.1 (lK σ 3 (6 * c)) (by omega)
  obtain ⟨p1, p2, p3⟩ := hP _ hm
  obtain ⟨y1, y2, y3, y4, y5, -⟩ := hY.1 (lK σ 3 (6 * c + 2) / 100) (by omega)
  have L : ∀ n k, k + n = n14 → fX7_wasEntered_L2 τ (lK σ 3 (6 * c)) (nI (lK σ 3 (6 * c + 2))) n k = fL_covered_L90 σ n14 c n k := by
    intro n
    induction n with
    | zero => intro k _; rfl
    | succ n ih =>
      intro k hk
      obtain ⟨e1, e2, e3, e4⟩ := hE k (by omega)
      simp only [fX7_wasEntered_L2, fL_covered_L90]
      have : fX7_wasEntered_S2 τ (lK σ 3 (6 * c)) (nI (lK σ 3 (6 * c + 2))) k = fL_covered_S90 σ n14 c k := by
        unfold fX7_wasEntered_S2 fL_covered_S90 fX1_isOn
        rw [e1, e2]
        by_cases h1 : lK σ 0 (3 * k) = lK σ 3 (6 * c)
        · rw [if_pos h1, if_pos h1]
          by_cases h2 : lK σ 3 (6 * c + 2) < lK σ 0 (3 * k + 1)
          · rw [if_pos (nI_lt h2 (by omega)), if_pos h2, if_pos n00]
          · rw [if_neg (show ¬ nI (lK σ 3 (6 * c + 2)) < nI (lK σ 0 (3 * k + 1)) by rw [nI_ltI (by omega) (by omega)]; exact h2), if_neg h2]
            rcases e4 with ⟨g1, g2⟩ | ⟨g1, g2⟩
            · rw [g2, g1, if_neg (show ¬ nI 2000 ≤ nI (lK σ 3 (6 * c + 2)) by rw [nI_leI (by omega) (by omega)]; omega), if_neg n10, if_neg (by omega)]
            · rw [g2]
              by_cases h3 : lK σ 0 (3 * k + 2) ≤ lK σ 3 (6 * c + 2)
              · rw [if_pos (nI_le h3 (by omega)), if_pos n00, if_pos h3]
              · rw [if_neg (show ¬ nI (lK σ 0 (3 * k + 2)) ≤ nI (lK σ 3 (6 * c + 2)) by rw [nI_leI (by omega) (by omega)]; exact h3), if_neg n10, if_neg h3]
        · rw [if_neg h1, if_neg h1]
      rw [this, ih (k + 1) (by omega)]
  unfold fX7_isCovered fL_covered fX7_wasEntered fL_covered_B87 fX3_isStoppedOn
  rw [c3, c5, c1, s1, a2, p2, L n14 0 (by omega)]
  have z9 := zL_covered_L σ n14 c n14 0
  by_cases hcl : lF σ ≤ lK σ 3 (6 * c + 2) / 100
  · rw [if_pos hcl, if_pos (y5.mpr hcl)]
    have w9 : (if fL_covered_L90 σ n14 c n14 0 = 0 then nI 0 else nI 1) = fL_covered_L90 σ n14 c n14 0 := by
      rcases z9 with z | z
      · rw [if_pos z, z]; rfl
      · rw [z]; rfl
    rw [w9]
    rcases p3 with p3 | ⟨d, d1, d2⟩
    · rw [p3, if_pos rfl, if_pos n00, if_pos (by decide)]
    · rw [d2, if_neg (nI_m1 (by omega)), if_neg (nI_pos (by omega))]
      by_cases h4 : nI (lK σ 3 (6 * c + 2)) < nI d
      · rw [if_pos h4, if_pos n00, if_pos h4]
      · rw [if_neg h4, if_neg n10, if_neg h4]
  · rw [if_neg hcl, if_neg (fun z => hcl (y5.mp z))]
    rcases hC.2.2.2.2.2.2.2.2.2.2.2.1 c with z | z
    · rw [z, if_pos (by have := c11.mp z; omega)]; rfl
    · rw [z, if_neg (by have : ¬ lK σ 3 (6 * c + 5) &&& 4 = 0 := fun q => by have := c11.mpr q; rw [z] at this; exact absurd this (by decide)
                        omega)]; rfl
