section JA8
variable {t : Nat} {σ : LT} {τ : CT} {q12 : Int64} {n14 n15 n16 n17 : Nat}
theorem a_nine (hJ : J t σ τ q12 n14 n15 n16 n17) (hW : LW σ) (ht : t < 44) (y : Int32) {m : Nat} (hm : m < 3) : Aok (t + 1) (fS1539 σ τ q12 n14 n15 n16 n17 m y) := by
  have e : fS1539 σ τ q12 n14 n15 n16 n17 m y = (if lowN y 3 = 0 then fS1595 σ τ q12 n14 n15 n16 n17 m y else (if lowN y 3 = 1 then fS1887 σ τ q12 n14 n15 n16 n17 m y (lOwes σ n14 m) else fS1954 σ τ q12 n14 n15 n16 n17 m y (lOwes σ n14 m))) := rfl
  rw [e]
  by_cases h0 : lowN y 3 = 0
  · rw [if_pos h0]; exact a_release hJ hW y hm
  · rw [if_neg h0]
    by_cases h1 : lowN y 3 = 1
    · rw [if_pos h1]; exact a_stop hJ hW y hm
    · rw [if_neg h1]; exact a_pay hJ hW ht y hm
end JA8
