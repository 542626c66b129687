section JAB
variable {t : Nat} {σ : LT} {τ : CT} {q12 : Int64} {n14 n15 n16 n17 : Nat}
theorem ite_up {α : Type} {c k : Nat} {P : Prop} [Decidable P] {x y : α} (h : c < k) : (if c < k ∧ P then x else y) = if c < k + 1 ∧ P then x else y := by
  by_cases hP : P
  · rw [if_pos ⟨h, hP⟩, if_pos ⟨by omega, hP⟩]
  · rw [if_neg (fun z => hP z.2), if_neg (fun z => hP z.2)]
theorem w_cg {σ σ1 : LT} (h : ∀ a b, a < 3 → lK σ1 a b = lK σ a b) (n14 m y : Nat) : fL_weight σ1 n14 m y = fL_weight σ n14 m y := by
  have S : ∀ d k a, fL_weight_S26 σ1 n14 m y d k a = fL_weight_S26 σ n14 m y d k a := by
    intro d k a
    unfold fL_weight_S26
    rw [h 0 _ (by decide), h 1 _ (by decide), h 0 _ (by decide), h 0 _ (by decide), h 1 _ (by decide)]
  have L : ∀ d n k a, fL_weight_L26 σ1 n14 m y d n k a = fL_weight_L26 σ n14 m y d n k a := by
    intro d n
    induction n with
    | zero => intro k a; rfl
    | succ n ih => intro k a; simp only [fL_weight_L26, lseq]; rw [S, ih]
  have M : ∀ n d a, fL_weight_L10 σ1 n14 m y n d a = fL_weight_L10 σ n14 m y n d a := by
    intro n
    induction n with
    | zero => intro d a; simp only [fL_weight_L10]; rw [h 2 _ (by decide)]
    | succ n ih => intro d a; simp only [fL_weight_L10, lseq, fL_weight_S10]; rw [L, ih]
  unfold fL_weight
  rw [M]
theorem cov_cg {σ1 : LT} (h1 : σ1.1 = σ.1) (h : ∀ a b, a ≠ 3 → lK σ1 a b = lK σ a b) (n c : Nat) (h0 : lK σ1 3 (6 * c) = lK σ 3 (6 * c)) (h2 : lK σ1 3 (6 * c + 2) = lK σ 3 (6 * c + 2)) (h5 : lK σ1 3 (6 * c + 5) = lK σ 3 (6 * c + 5)) : fL_covered σ1 n c = fL_covered σ n c := by
  have hI : ∀ a b, lI σ1 a b = lI σ a b := fun a b => show σ1.1 a b = σ.1 a b by rw [h1]
  have L : ∀ n1 k, fL_covered_L90 σ1 n c n1 k = fL_covered_L90 σ n c n1 k := by
    intro n1
    induction n1 with
    | zero => intro k; rfl
    | succ n1 ih =>
      intro k
      simp only [fL_covered_L90]
      rw [show fL_covered_S90 σ1 n c k = fL_covered_S90 σ n c k by
        unfold fL_covered_S90
        rw [h 0 _ (by decide), h 0 _ (by decide), h 0 _ (by decide), h0, h2], show (fun q : Unit => fL_covered_L90 σ1 n c n1 (k + 1)) = (fun q => fL_covered_L90 σ n c n1 (k + 1)) from funext (fun _ => ih (k + 1))]
  unfold fL_covered fL_covered_B87
  rw [L, show lF σ1 = lF σ from congrArg tn (hI 7 12), h0, h 1 _ (by decide), h2, hI, h5]
/-- the flags of the year that closes -/
def fl4 (σ : LT) (n14 F k c : Nat) : Nat := if c < k ∧ lK σ 3 (6 * c + 2) / 100 = F ∧ ¬ fL_covered σ n14 c = 0 then lK σ 3 (6 * c + 5) ||| 4 else lK σ 3 (6 * c + 5)
def FX (σ : LT) (n14 F k : Nat) (σk : LT) : Prop := σk.1 = σ.1 ∧ σk.2.1 = σ.2.1 ∧ (∀ a b, (a ≠ 3 ∨ b % 6 ≠ 5) → lK σk a b = lK σ a b) ∧ ∀ c, lK σk 3 (6 * c + 5) = fl4 σ n14 F k c
theorem flag_loop (σ0 : LT) (τC : CT) (F : Nat) (w28 : Int64) : ∀ n k (σk : LT), k + n = n15 → FX σ n14 F k σk → ∃ σ1, fS2170_L2173 σ0 τC q12 n14 n15 n16 n17 F w28 n k σk = fS2170_L2240 σ0 τC q12 n14 n15 n16 n17 F w28 σ1 3 0 w28 (0 : Int64) ∧ FX σ n14 F n15 σ1 := by
  intro n
  induction n with
  | zero =>
    intro k σk hk hX
    have hk : k = n15 := by omega
    subst hk
    exact ⟨σk, rfl, hX⟩
  | succ n ih =>
    intro k σk hk hX
    obtain ⟨x1, x2, x3, x4⟩ := hX
    have hsame : lK σk 3 (6 * k + 5) = lK σ 3 (6 * k + 5) := by rw [x4]; unfold fl4; rw [if_neg (by omega)]
    have hcv : fL_covered σk n14 k = fL_covered σ n14 k := cov_cg x1 (fun a b h => x3 a b (Or.inl h)) n14 k (x3 _ _ (by omega)) (x3 _ _ (by omega)) hsame
    have e : fS2170_L2173 σ0 τC q12 n14 n15 n16 n17 F w28 (n + 1) k σk = fS2170_L2173 σ0 τC q12 n14 n15 n16 n17 F w28 n (k + 1) (fS2170_S2173 σ0 τC q12 n14 n15 n16 n17 F w28 k σk) := rfl
    rw [e]
    refine ih (k + 1) _ (by omega) ?_
    unfold fS2170_S2173
    rw [hcv, hsame, x3 3 (6 * k + 2) (by omega)]
    have keep : (¬ lK σ 3 (6 * k + 2) / 100 = F ∨ fL_covered σ n14 k = 0) → FX σ n14 F (k + 1) σk := by
      intro hn
      refine ⟨x1, x2, x3, fun c => ?_⟩
      rw [x4]
      unfold fl4
      by_cases h : c = k
      · subst h
        rw [if_neg (by omega), if_neg (fun z => by rcases hn with hn | hn; exact hn z.2.1; exact z.2.2 hn)]
      · by_cases h2 : c < k
        · exact ite_up h2
        · rw [if_neg (fun z => h2 z.1), if_neg (fun z => by omega)]
    by_cases hy : lK σ 3 (6 * k + 2) / 100 = F
    · rw [if_pos hy]
      by_cases hc : fL_covered σ n14 k = 0
      · rw [if_pos hc]; exact keep (Or.inr hc)
      · rw [if_neg hc]
        refine ⟨x1, x2, fun a b hab => ?_, fun c => ?_⟩
        · rw [lSK_K, if_neg (by omega)]; exact x3 a b hab
        · rw [f5, x4]
          unfold fl4
          by_cases h : c = k
          · subst h
            rw [if_pos rfl, if_pos ⟨by omega, hy, hc⟩]
          · rw [if_neg h]
            by_cases h2 : c < k
            · exact ite_up h2
            · rw [if_neg (fun z => h2 z.1), if_neg (fun z => by omega)]
    · rw [if_neg hy]; exact keep (Or.inl hy)
/-! the class's flags -/
theorem cov_cl {τ1 : CT} (hK : ∀ a b, cK τ1 a b = cK τ a b) (hI : ∀ a b, a ≠ 28 → cI τ1 a b = cI τ a b) (hN : cN τ1 2 = cN τ 2) (c : Nat) (h33 : cI τ 33 (cK τ 16 (cK τ 13 c) / 100) = 0) : fX7_isCovered τ1 c = fX7_isCovered τ c := by
  have L : ∀ s d n k, fX7_wasEntered_L2 τ1 s d n k = fX7_wasEntered_L2 τ s d n k := by
    intro s d n
    induction n with
    | zero => intro k; rfl
    | succ n ih =>
      intro k
      simp only [fX7_wasEntered_L2]
      rw [show fX7_wasEntered_S2 τ1 s d k = fX7_wasEntered_S2 τ s d k by
        unfold fX7_wasEntered_S2 fX1_isOn
        rw [hK, hI 22 _ (by decide), hI 23 _ (by decide)], show (fun q : Unit => fX7_wasEntered_L2 τ1 s d n (k + 1)) = (fun q => fX7_wasEntered_L2 τ s d n (k + 1)) from funext (fun _ => ih (k + 1))]
  unfold fX7_isCovered fX7_wasEntered fX3_isStoppedOn
  rw [hK 13, hK 16, hK 12, hK 10, hI 33 _ (by decide), hI 20 _ (by decide), hN, L, if_pos h33, if_pos h33]
theorem close_loop {τ1 : CT} (τ0 : CT) (a : Int32) {F : Nat} (ha : tn a = F) (hK : τ1.2.2.1 = τ.2.2.1) (hI1 : τ1.1 = τ.1) (h33 : cI τ 33 F = 0) (hyr : ∀ c, c < n15 → cK τ 16 (cK τ 13 c) < 2 ^ 31) (hF : F < 2 ^ 30) : ∀ n k (τk : CT), k + n = n15 → τk.2 = τ1.2 → (∀ a b, a ≠ 28 → cI τk a b = cI τ1 a b) → (∀ c, cI τk 28 c = if c < k ∧ cK τ 16 (cK τ 13 c) / 100 = F then fX7_isCovered τ c else cI τ 28 c) →
    ∃ τ2, fX7_close_L30 τ0 a n k τk = .inr (fX7_costIn τ0 (nI F), cSI τ2 33 F (nI 1)) ∧ τ2.2 = τ1.2 ∧ (∀ a b, a ≠ 28 → cI τ2 a b = cI τ1 a b) ∧ ∀ c, cI τ2 28 c = if c < n15 ∧ cK τ 16 (cK τ 13 c) / 100 = F then fX7_isCovered τ c else cI τ 28 c := by
  intro n
  induction n with
  | zero =>
    intro k τk hk h1 h2 h3
    have hk : k = n15 := by omega
    subst hk
    refine ⟨τk, ?_, h1, h2, h3⟩
    simp only [fX7_close_L30]
    rw [ha]
  | succ n ih =>
    intro k τk hk h1 h2 h3
    have hKk : ∀ a b, cK τk a b = cK τ a b := fun a b => show τk.2.2.1 a b = τ.2.2.1 a b by rw [h1, hK]
    have hIk : ∀ a b, a ≠ 28 → cI τk a b = cI τ a b := fun a b h => by rw [h2 a b h]; show τ1.1 a b = τ.1 a b; rw [hI1]
    have hNk : cN τk 2 = cN τ 2 := by unfold cN; exact hKk _ _
    have e : fX7_close_L30 τ0 a (n + 1) k τk = fX7_close_L30 τ0 a n (k + 1) (fX7_close_S30 τ0 a k τk) := rfl
    rw [e]
    have hlt := hyr k (by omega)
    unfold fX7_close_S30
    rw [hKk, hKk, ha]
    by_cases hy : cK τ 16 (cK τ 13 k) / 100 = F
    · rw [if_pos (by rw [hy]), cov_cl hKk hIk hNk k (by rw [hy]; exact h33)]
      refine ih (k + 1) _ (by omega) h1 (fun a b h => ?_) (fun c => ?_)
      · rw [ci_n _ _ _ _ _ _ h]; exact h2 a b h
      · rw [ci_s, h3]
        by_cases h : c = k
        · subst h
          rw [if_pos rfl, if_pos ⟨by omega, hy⟩]
        · rw [if_neg h]
          by_cases h2 : c < k
          · exact ite_up h2
          · rw [if_neg (fun z => h2 z.1), if_neg (fun z => by omega)]
    · rw [if_neg (fun z => hy ((nI_eq (by omega) (by omega)).mp z))]
      refine ih (k + 1) _ (by omega) h1 h2 (fun c => ?_)
      rw [h3]
      by_cases h : c = k
      · subst h
        rw [if_neg (by omega), if_neg (fun z => hy z.2)]
      · by_cases h2 : c < k
        · exact ite_up h2
        · rw [if_neg (fun z => h2 z.1), if_neg (fun z => by omega)]
/-! may it close -/
theorem can_law (σ0 : LT) (τ0 : CT) : ∀ n k a, k + n = n15 → (a = 0 ∨ a = 1) → ∃ a1, (a1 = 0 ∨ a1 = 1) ∧ fS2026_L2062 σ τ q12 n14 n15 n16 n17 n k a = fS2026_L2062 σ τ q12 n14 n15 n16 n17 0 n15 a1 ∧ (a1 = 0 ↔ a = 0 ∨ ∃ c, k ≤ c ∧ c < n15 ∧ lK σ 3 (6 * c + 2) / 100 = lF σ ∧ lK σ 3 (6 * c + 5) &&& 1 = 0) := by
  intro n
  induction n with
  | zero =>
    intro k a hk ha
    have hk : k = n15 := by omega
    subst hk
    exact ⟨a, ha, rfl, Or.inl, fun z => z.elim id (fun ⟨c, h1, h2, _⟩ => by omega)⟩
  | succ n ih =>
    intro k a hk ha
    have e : fS2026_L2062 σ τ q12 n14 n15 n16 n17 (n + 1) k a = fS2026_L2062 σ τ q12 n14 n15 n16 n17 n (k + 1) (fS2026_S2062 σ τ q12 n14 n15 n16 n17 k a) := rfl
    rw [e]
    unfold fS2026_S2062
    by_cases hb : lK σ 3 (6 * k + 2) / 100 = lF σ ∧ lK σ 3 (6 * k + 5) &&& 1 = 0
    · rw [if_pos hb.1, if_pos hb.2]
      obtain ⟨a1, p1, p2, p3⟩ := ih (k + 1) (nI 0) (by omega) (Or.inl rfl)
      refine ⟨a1, p1, p2, fun _ => Or.inr ⟨k, Nat.le_refl _, by omega, hb.1, hb.2⟩, fun _ => p3.mpr (Or.inl rfl)⟩
    · have e2 : (if lK σ 3 (6 * k + 2) / 100 = lF σ then (if lK σ 3 (6 * k + 5) &&& 1 = 0 then nI 0 else a) else a) = a := by
        by_cases h1 : lK σ 3 (6 * k + 2) / 100 = lF σ
        · rw [if_pos h1, if_neg (fun z => hb ⟨h1, z⟩)]
        · rw [if_neg h1]
      rw [e2]
      obtain ⟨a1, p1, p2, p3⟩ := ih (k + 1) a (by omega) ha
      refine ⟨a1, p1, p2, fun z => ?_, fun z => ?_⟩
      · rcases p3.mp z with z | ⟨c, h1, h2, h3⟩
        · exact Or.inl z
        · exact Or.inr ⟨c, by omega, h2, h3⟩
      · rcases z with z | ⟨c, h1, h2, h3⟩
        · exact p3.mpr (Or.inl z)
        · by_cases h : c = k
          · subst h; exact absurd h3 hb
          · exact p3.mpr (Or.inr ⟨c, by omega, h2, h3⟩)
theorem can_cls (hJ : J t σ τ q12 n14 n15 n16 n17) (hW : LW σ) : ∀ n k, k + n = n15 → (fX7_checkClosable_L60 τ (lF σ) n k = .inr () ∧ ¬ ∃ c, k ≤ c ∧ c < n15 ∧ lK σ 3 (6 * c + 2) / 100 = lF σ ∧ lK σ 3 (6 * c + 5) &&& 1 = 0) ∨ (fX7_checkClosable_L60 τ (lF σ) n k = .inl "java/lang/IllegalStateException" ∧ ∃ c, k ≤ c ∧ c < n15 ∧ lK σ 3 (6 * c + 2) / 100 = lF σ ∧ lK σ 3 (6 * c + 5) &&& 1 = 0) := by
  obtain ⟨⟨a0, a1, a2, a3, a4, a5, a6, b1, b2, b3, b4, b5⟩, hM, hP, hS, hE, hO, hJC, hV, hJW, hU, hY, hB⟩ := id hJ
  have hF3 := hW.2.2.2.2.1.2
  intro n
  induction n with
  | zero => intro k hk; exact Or.inl ⟨rfl, fun ⟨c, h1, h2, _⟩ => by omega⟩
  | succ n ih =>
    intro k hk
    obtain ⟨c1, c2, c3, c4, c5, c6, c7, c8, c9, c10, c11, c12⟩ := hJC.1 k (by omega)
    simp only [fX7_checkClosable_L60]
    unfold fX7_checkClosable_S60
    rw [c3, c5]
    have up : (¬ (lK σ 3 (6 * k + 2) / 100 = lF σ ∧ lK σ 3 (6 * k + 5) &&& 1 = 0)) → (∃ c, k ≤ c ∧ c < n15 ∧ lK σ 3 (6 * c + 2) / 100 = lF σ ∧ lK σ 3 (6 * c + 5) &&& 1 = 0) → ∃ c, k + 1 ≤ c ∧ c < n15 ∧ lK σ 3 (6 * c + 2) / 100 = lF σ ∧ lK σ 3 (6 * c + 5) &&& 1 = 0 := fun hb ⟨c, h1, h2, h3⟩ => by
      by_cases h : c = k
      · subst h; exact absurd h3 hb
      · exact ⟨c, by omega, h2, h3⟩
    have fin : (¬ (lK σ 3 (6 * k + 2) / 100 = lF σ ∧ lK σ 3 (6 * k + 5) &&& 1 = 0)) → (fX7_checkClosable_L60 τ (lF σ) n (k + 1) = .inr () ∧ ¬ ∃ c, k ≤ c ∧ c < n15 ∧ lK σ 3 (6 * c + 2) / 100 = lF σ ∧ lK σ 3 (6 * c + 5) &&& 1 = 0) ∨ (fX7_checkClosable_L60 τ (lF σ) n (k + 1) = .inl "java/lang/IllegalStateException" ∧ ∃ c, k ≤ c ∧ c < n15 ∧ lK σ 3 (6 * c + 2) / 100 = lF σ ∧ lK σ 3 (6 * c + 5) &&& 1 = 0) := fun hb => by
      rcases ih (k + 1) (by omega) with ⟨h1, h2⟩ | ⟨h1, c, h2, h3⟩
      · exact Or.inl ⟨h1, fun z => h2 (up hb z)⟩
      · exact Or.inr ⟨h1, c, by omega, h3⟩
    by_cases hy : lK σ 3 (6 * k + 2) / 100 = lF σ
    · rw [if_pos (by rw [hy])]
      by_cases h1 : cI τ 26 k = 0
      · rw [if_pos h1, lb_inr]
        exact Or.inr ⟨rfl, k, Nat.le_refl _, by omega, hy, c9.mp h1⟩
      · rw [if_neg h1, lb_inl]
        exact fin (fun z => h1 (c9.mpr z.2))
    · rw [if_neg (fun z => hy ((nI_eq (by omega) (by omega)).mp z)), lb_inl]
      exact fin (fun z => hy z.1)
end JAB
