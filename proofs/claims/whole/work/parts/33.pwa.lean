/-! weightAnew: day by day -/
def sumF (f : Nat → Nat) : Nat → Nat → Nat
  | 0, _ => 0
  | n + 1, k => f k + sumF f n (k + 1)
theorem sumF_add (f g : Nat → Nat) : ∀ n k, sumF (fun i => f i + g i) n k = sumF f n k + sumF g n k := by
  intro n
  induction n with
  | zero => intro k; rfl
  | succ n ih => intro k; simp only [sumF]; rw [ih]; omega
theorem sumF_0 : ∀ n k, sumF (fun _ => 0) n k = 0 := by
  intro n
  induction n with
  | zero => intro k; rfl
  | succ n ih => intro k; simp only [sumF]; rw [ih]
theorem sumF_swap (c : Nat → Nat → Nat) (n k0 : Nat) : ∀ D d0, sumF (fun d => sumF (fun k => c k d) n k0) D d0 = sumF (fun k => sumF (fun d => c k d) D d0) n k0 := by
  intro D
  induction D with
  | zero => intro d0; simp only [sumF]; rw [sumF_0]
  | succ D ih => intro d0; simp only [sumF]; rw [ih, sumF_add]
theorem sumF_congr {f g : Nat → Nat} : ∀ n k, (∀ i, k ≤ i → i < k + n → f i = g i) → sumF f n k = sumF g n k := by
  intro n
  induction n with
  | zero => intro k _; rfl
  | succ n ih => intro k h; simp only [sumF]; rw [h k (Nat.le_refl _) (by omega), ih (k + 1) (fun i h1 h2 => h i (by omega) (by omega))]
theorem sumF_days (f u t : Nat) : ∀ n k, sumF (fun d => if f ≤ d ∧ d < u then t else 0) n k = t * (min (k + n) u - max f k) := by
  intro n
  induction n with
  | zero => intro k; simp only [sumF]; rw [show min (k + 0) u - max f k = 0 by omega, Nat.mul_zero]
  | succ n ih =>
    intro k
    simp only [sumF]
    rw [ih]
    by_cases h : f ≤ k ∧ k < u
    · rw [if_pos h, show min (k + (n + 1)) u - max f k = 1 + (min (k + 1 + n) u - max f (k + 1)) by omega, Nat.mul_add, Nat.mul_one]
    · rw [if_neg h, show min (k + (n + 1)) u - max f k = min (k + 1 + n) u - max f (k + 1) by omega]
      omega
def cDay (τ : CT) (m k d : Nat) : Nat := if cK τ 10 (cK τ 11 k) = m then (if tn (cI τ 22 k) ≤ d ∧ d < tn (cI τ 23 k) then tn (cI τ 21 (cK τ 11 k)) else 0) else 0
def cWt (τ : CT) (m y k : Nat) : Nat := if cK τ 10 (cK τ 11 k) = m then tn (cI τ 21 (cK τ 11 k)) * (min ((y + 1) * 100) (tn (cI τ 23 k)) - max (tn (cI τ 22 k)) (y * 100)) else 0
theorem e_nums {σ : MT} {τ : CT} (hS : RelS σ τ) (hE : RelE σ τ) (hW : CW τ) {k : Nat} (hk : k < cN τ 2) : ∃ f u t, f < 2000 ∧ u ≤ 2000 ∧ 1 ≤ t ∧ t ≤ 999 ∧ cI τ 22 k = nI f ∧ cI τ 23 k = nI u ∧ cI τ 21 (cK τ 11 k) = nI t := by
  have w := hW.1
  obtain ⟨e1, f, f1, f2, f3, f4⟩ := hE k hk
  obtain ⟨s1, s2, t, t1, t2, t3⟩ := hS (cK τ 11 k) (hW.2.2.1 k hk)
  rcases f4 with ⟨g1, g2⟩ | ⟨u, g1, g2, g3⟩
  · exact ⟨f, 2000, t, by omega, by omega, t1, t2, f3, g2, t3⟩
  · exact ⟨f, u, t, by omega, by omega, t1, t2, f3, g3, t3⟩
theorem e_tons {σ : MT} {τ : CT} (hS : RelS σ τ) (hE : RelE σ τ) (hW : CW τ) {m d : Nat} (hd : d < 2000) : fX7_tonsOn τ m (nI d) = lN (sumF (fun k => cDay τ m k d) (cN τ 2) 0) := by
  have L : ∀ n k a, k + n = cN τ 2 → fX7_tonsOn_L5 τ m (nI d) n k (lN a) = lN (a + sumF (fun k => cDay τ m k d) n k) := by
    intro n
    induction n with
    | zero => intro k a _; simp only [fX7_tonsOn_L5, sumF]; rfl
    | succ n ih =>
      intro k a hk
      simp only [fX7_tonsOn_L5, lseq, sumF]
      obtain ⟨f, u, t, h1, h2, h3, h4, h5, h6, h7⟩ := e_nums hS hE hW (k := k) (by omega)
      have key : fX7_tonsOn_S5 τ m (nI d) k (lN a) = lN (a + cDay τ m k d) := by
        unfold fX7_tonsOn_S5 cDay fX1_isOn
        rw [h5, h6, h7, tn_nI (by omega), tn_nI (by omega), tn_nI (by omega)]
        by_cases ho : cK τ 10 (cK τ 11 k) = m
        · rw [if_pos ho, if_pos ho]
          by_cases c1 : d < f
          · rw [if_pos (nI_lt c1 (by omega)), if_pos (show nI 0 = 0 from rfl), if_neg (by omega)]; rfl
          · rw [if_neg (show ¬ nI d < nI f by rw [nI_ltI (by omega) (by omega)]; exact c1)]
            by_cases c2 : u ≤ d
            · rw [if_pos (nI_le c2 (by omega)), if_pos (show nI 0 = 0 from rfl), if_neg (by omega)]; rfl
            · rw [show (if nI u ≤ nI d then nI 0 else nI 1) = nI 1 from if_neg (by rw [nI_leI (by omega) (by omega)]; exact c2), if_neg n10, if_pos ⟨by omega, by omega⟩, nI_l (by omega), lN_add]
        · rw [if_neg ho, if_neg ho]; rfl
      rw [key, ih (k + 1) _ (by omega), Nat.add_assoc]
  unfold fX7_tonsOn
  rw [show (0 : Int64) = lN 0 from rfl, L (cN τ 2) 0 0 (by omega), Nat.zero_add]
theorem e_weightX {σ : MT} {τ : CT} (hS : RelS σ τ) (hE : RelE σ τ) (hW : CW τ) {m y : Nat} (hy : y < 20) : fX7_weightIn τ m y = fX3_rated τ m (lN (sumF (fun k => cWt τ m y k) (cN τ 2) 0)) y := by
  have L : ∀ n k a, k + n = cN τ 2 → fX7_weightIn_L5 τ m y n k (lN a) = fX3_rated τ m (lN (a + sumF (fun k => cWt τ m y k) n k)) y := by
    intro n
    induction n with
    | zero => intro k a _; simp only [fX7_weightIn_L5, sumF]; rfl
    | succ n ih =>
      intro k a hk
      simp only [fX7_weightIn_L5, lseq, sumF]
      obtain ⟨f, u, t, h1, h2, h3, h4, h5, h6, h7⟩ := e_nums hS hE hW (k := k) (by omega)
      have key : fX7_weightIn_S5 τ m y k (lN a) = lN (a + cWt τ m y k) := by
        unfold fX7_weightIn_S5 cWt
        rw [e_daysIn (y := y) h5 h6 (by omega) (by omega) hy, h5, h6, h7, tn_nI (by omega), tn_nI (by omega), tn_nI (by omega)]
        by_cases ho : cK τ 10 (cK τ 11 k) = m
        · rw [if_pos ho, if_pos ho, nI_l (by omega), nI_l (by omega), lN_mul, lN_add]
        · rw [if_neg ho, if_neg ho]; rfl
      rw [key, ih (k + 1) _ (by omega), Nat.add_assoc]
  unfold fX7_weightIn
  rw [show (0 : Int64) = lN 0 from rfl, L (cN τ 2) 0 0 (by omega), Nat.zero_add]
theorem e_anew {σ : MT} {τ : CT} (hS : RelS σ τ) (hE : RelE σ τ) (hW : CW τ) (a1 a2 : Int32) {m y : Nat} (hy : y < 20) (ha : tn a2 = y) : fX7_weightAnew_L27 τ a1 a2 m ((y + 1) * 100 - y * 100) (y * 100) (0 : Int64) = .inr (fX7_weightIn τ m y) := by
  have L : ∀ n k a, k + n = (y + 1) * 100 → fX7_weightAnew_L27 τ a1 a2 m n k (lN a) = .inr (fX3_rated τ m (lN (a + sumF (fun d => sumF (fun k => cDay τ m k d) (cN τ 2) 0) n k)) y) := by
    intro n
    induction n with
    | zero => intro k a _; simp only [fX7_weightAnew_L27, sumF]; rw [ha]; rfl
    | succ n ih =>
      intro k a hk
      simp only [fX7_weightAnew_L27, lseq, sumF, fX7_weightAnew_S27]
      rw [e_tons hS hE hW (by omega), lN_add, ih (k + 1) _ (by omega), Nat.add_assoc]
  rw [show (0 : Int64) = lN 0 from rfl, L _ _ 0 (by omega), e_weightX hS hE hW hy, Nat.zero_add, sumF_swap, show (y + 1) * 100 - y * 100 = 100 by omega]
  refine congrArg (fun z => (Sum.inr (fX3_rated τ m (lN z) y) : String ⊕ Int64)) (sumF_congr _ _ (fun k _ hk => ?_))
  unfold cDay cWt
  by_cases ho : cK τ 10 (cK τ 11 k) = m
  · simp only [if_pos ho]
    rw [sumF_days]
    congr 2; omega
  · simp only [if_neg ho]
    exact sumF_0 _ _
