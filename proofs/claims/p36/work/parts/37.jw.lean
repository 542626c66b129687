/-! weights: day by day, and by the entries' spans -/
def sumN (f : Nat → Nat) : Nat → Nat
  | 0 => 0
  | n + 1 => sumN f n + f n
theorem sumN_congr {f g : Nat → Nat} : ∀ n, (∀ k, k < n → f k = g k) → sumN f n = sumN g n
  | 0, _ => rfl
  | n + 1, h => by
    show sumN f n + f n = sumN g n + g n
    rw [sumN_congr n (fun k hk => h k (by omega)), h n (by omega)]
theorem sumN_zero : ∀ n, sumN (fun _ => 0) n = 0
  | 0 => rfl
  | n + 1 => by show sumN (fun _ => 0) n + 0 = 0; rw [sumN_zero n]
theorem sumN_add (f g : Nat → Nat) : ∀ n, sumN (fun k => f k + g k) n = sumN f n + sumN g n
  | 0 => rfl
  | n + 1 => by
    show sumN (fun k => f k + g k) n + (f n + g n) = (sumN f n + f n) + (sumN g n + g n)
    rw [sumN_add f g n]; omega
theorem sumN_swap (g : Nat → Nat → Nat) (n : Nat) : ∀ m, sumN (fun i => sumN (g i) n) m = sumN (fun k => sumN (fun i => g i k) m) n
  | 0 => (sumN_zero n).symm
  | m + 1 => by
    show sumN (fun i => sumN (g i) n) m + sumN (g m) n = sumN (fun k => sumN (fun i => g i k) m + g m k) n
    rw [sumN_swap g n m, sumN_add]
theorem sumN_le {f : Nat → Nat} {b : Nat} : ∀ n, (∀ k, k < n → f k ≤ b) → sumN f n ≤ b * n
  | 0, _ => Nat.zero_le _
  | n + 1, h => by
    show sumN f n + f n ≤ b * (n + 1)
    have h1 := sumN_le n (fun k hk => h k (by omega))
    have h2 := h n (by omega)
    rw [Nat.mul_succ]; omega
theorem sumN_span (t f u a : Nat) : ∀ n, sumN (fun i => if f ≤ a + i ∧ a + i < u then t else 0) n = t * (min (a + n) u - max f a)
  | 0 => by
    have : min (a + 0) u - max f a = 0 := by omega
    rw [this]; rfl
  | n + 1 => by
    show sumN (fun i => if f ≤ a + i ∧ a + i < u then t else 0) n + (if f ≤ a + n ∧ a + n < u then t else 0) = _
    rw [sumN_span t f u a n]
    by_cases h : f ≤ a + n ∧ a + n < u
    · rw [if_pos h, show min (a + (n + 1)) u - max f a = (min (a + n) u - max f a) + 1 by omega, Nat.mul_succ]
    · rw [if_neg h, show min (a + (n + 1)) u - max f a = min (a + n) u - max f a by omega, Nat.add_zero]
/-- an entry's part on a day, and over a year -/
def wT (σ : LT) (m d k : Nat) : Nat := if lK σ 1 (lK σ 0 (3 * k)) = m ∧ lK σ 0 (3 * k + 1) ≤ d ∧ d < lK σ 0 (3 * k + 2) then lK σ 1 (8 + lK σ 0 (3 * k)) else 0
def cT (σ : LT) (m y k : Nat) : Nat := if lK σ 1 (lK σ 0 (3 * k)) = m then lK σ 1 (8 + lK σ 0 (3 * k)) * (min (100 * y + 100) (lK σ 0 (3 * k + 2)) - max (lK σ 0 (3 * k + 1)) (100 * y)) else 0
theorem cT_wT (σ : LT) (m y k : Nat) : sumN (fun i => wT σ m (100 * y + i) k) 100 = cT σ m y k := by
  unfold cT wT
  by_cases h : lK σ 1 (lK σ 0 (3 * k)) = m
  · rw [if_pos h]
    rw [← sumN_span]
    refine sumN_congr _ (fun i _ => ?_)
    by_cases h2 : lK σ 0 (3 * k + 1) ≤ 100 * y + i ∧ 100 * y + i < lK σ 0 (3 * k + 2)
    · rw [if_pos ⟨h, h2⟩, if_pos h2]
    · rw [if_neg (fun z => h2 z.2), if_neg h2]
  · rw [if_neg h]
    rw [← sumN_zero 100]
    exact sumN_congr _ (fun i _ => if_neg (fun z => h z.1))
def cW (σ : LT) (n14 m y : Nat) : Nat := sumN (cT σ m y) n14
theorem cT_le {σ : LT} (hW : LW σ) (m y k : Nat) : cT σ m y k ≤ 99900 := by
  unfold cT
  split
  · have h1 := hW.2.2.2.2.2.2 (lK σ 0 (3 * k))
    have h2 : min (100 * y + 100) (lK σ 0 (3 * k + 2)) - max (lK σ 0 (3 * k + 1)) (100 * y) ≤ 100 := by omega
    have := Nat.mul_le_mul h1 h2
    omega
  · omega
theorem cW_le {σ : LT} (hW : LW σ) {n14 : Nat} (hn : n14 ≤ 12) (m y : Nat) : cW σ n14 m y ≤ 1198800 := by
  have h1 := sumN_le (b := 99900) n14 (fun k _ => cT_le hW m y k)
  have h2 := Nat.mul_le_mul_left 99900 hn
  unfold cW; omega
theorem w_law {σ : LT} (hW : LW σ) {n14 m y : Nat} (hn : n14 ≤ 12) (hr : lK σ 2 (3 * m + y) ≤ 500) : fL_weight σ n14 m y = lN (cW σ n14 m y * lK σ 2 (3 * m + y) / 100) := by
  have S : ∀ d k s, fL_weight_S26 σ n14 m y d k (lN s) = lN (s + wT σ m d k) := by
    intro d k s
    unfold fL_weight_S26 wT
    by_cases h1 : lK σ 1 (lK σ 0 (3 * k)) = m
    · rw [if_pos h1]
      by_cases h2 : d < lK σ 0 (3 * k + 1)
      · rw [if_pos h2, if_neg (fun z => by omega)]; rfl
      · rw [if_neg h2]
        by_cases h3 : lK σ 0 (3 * k + 2) ≤ d
        · rw [if_pos h3, if_neg (fun z => by omega)]; rfl
        · rw [if_neg h3, if_pos ⟨h1, by omega, by omega⟩, lN_add]
    · rw [if_neg h1, if_neg (fun z => h1 z.1)]; rfl
  have L : ∀ d n k s, k + n = n14 → fL_weight_L26 σ n14 m y d n k (lN (s + sumN (wT σ m d) k)) = lN (s + sumN (wT σ m d) n14) := by
    intro d n
    induction n with
    | zero => intro k s hk; rw [← hk]; rfl
    | succ n ih =>
      intro k s hk
      simp only [fL_weight_L26, lseq]
      rw [S, Nat.add_assoc]
      exact ih (k + 1) s (by omega)
  have M : ∀ n i, i + n = 100 → fL_weight_L10 σ n14 m y n (100 * y + i) (lN (sumN (fun i => sumN (wT σ m (100 * y + i)) n14) i)) = lN (cW σ n14 m y * lK σ 2 (3 * m + y) / 100) := by
    intro n
    induction n with
    | zero =>
      intro i hi
      simp only [fL_weight_L10]
      have hi : i = 100 := by omega
      subst hi
      rw [sumN_swap, show sumN (fun k => sumN (fun i => wT σ m (100 * y + i) k) 100) n14 = cW σ n14 m y from sumN_congr _ (fun k _ => cT_wT σ m y k), lN_mul]
      have h1 := cW_le hW hn m y
      have h2 := Nat.mul_le_mul h1 hr
      exact pk_lDiv (b := 100) (by omega) (by decide) (by decide)
    | succ n ih =>
      intro i hi
      simp only [fL_weight_L10, lseq, fL_weight_S10]
      have h := L (100 * y + i) n14 0 (sumN (fun i => sumN (wT σ m (100 * y + i)) n14) i) (by omega)
      rw [show sumN (wT σ m (100 * y + i)) 0 = 0 from rfl, Nat.add_zero] at h
      rw [h]
      exact ih (i + 1) (by omega)
  unfold fL_weight
  rw [show 100 * y + 100 - 100 * y = 100 by omega]
  exact M 100 0 (by omega)
theorem w_cls {σ : LT} {τ : CT} {n14 n17 m y r : Nat} (hW : LW σ) (hN : cN τ 2 = n14) (hn : n14 ≤ 12) (h17 : n17 < 300) (hS : JS σ τ) (hE : JE σ τ n14 n17) (hy : y < 20) (hr : cM τ 0 m y = nI r) (hr2 : r ≤ 500) : fX7_weightIn τ m y = lN (cW σ n14 m y * r / 100) := by
  have S : ∀ k s, k < n14 → fX7_weightIn_S5 τ m y k (lN s) = lN (s + cT σ m y k) := by
    intro k s hk
    obtain ⟨e1, e2, e3, e4⟩ := hE k hk
    have hs := hW.1 k
    obtain ⟨s1, s2, s3⟩ := hS _ hs
    have ht := hW.2.2.2.2.2.2 (lK σ 0 (3 * k))
    unfold fX7_weightIn_S5 cT
    rw [e1, s1, s2]
    by_cases h1 : lK σ 1 (lK σ 0 (3 * k)) = m
    · rw [if_pos h1, if_pos h1]
      have key : ∃ u, u ≤ 9999 ∧ cI τ 23 k = nI u ∧ min ((y + 1) * 100) u - max (lK σ 0 (3 * k + 1)) (y * 100) = min (100 * y + 100) (lK σ 0 (3 * k + 2)) - max (lK σ 0 (3 * k + 1)) (100 * y) := by
        rcases e4 with ⟨g1, g2⟩ | ⟨g1, g2⟩
        · exact ⟨2000, by omega, g2, by omega⟩
        · exact ⟨_, by omega, g2, by omega⟩
      obtain ⟨u, u1, u2, u3⟩ := key
      rw [e_daysIn e2 u2 (by omega) (by omega) hy, u3, nI_l (by omega), nI_l (by omega), lN_mul, lN_add]
    · rw [if_neg h1, if_neg h1]; rfl
  have L : ∀ n k, k + n = n14 → fX7_weightIn_L5 τ m y n k (lN (sumN (cT σ m y) k)) = lN (cW σ n14 m y * r / 100) := by
    intro n
    induction n with
    | zero =>
      intro k hk
      have hk : k = n14 := by omega
      subst hk
      simp only [fX7_weightIn_L5, fX3_rated]
      rw [hr, nI_l (by omega), lN_mul]
      have h1 := cW_le hW hn m y
      have h2 := Nat.mul_le_mul h1 hr2
      exact pk_lDiv (b := 100) (by unfold cW at h2; omega) (by decide) (by decide)
    | succ n ih =>
      intro k hk
      simp only [fX7_weightIn_L5, lseq]
      rw [S k _ (by omega)]
      exact ih (k + 1) (by omega)
  unfold fX7_weightIn
  rw [hN]
  exact L n14 0 (by omega)
/-- the two weights are one -/
theorem w_eq {t : Nat} {σ : LT} {τ : CT} {q12 : Int64} {n14 n15 n16 n17 : Nat} (hJ : J t σ τ q12 n14 n15 n16 n17) (hW : LW σ) {m y : Nat} (hm : m < 3) (hy : y < 3) : fX7_weightIn τ m y = fL_weight σ n14 m y ∧ ∃ w, w ≤ 5994000 ∧ fL_weight σ n14 m y = lN w := by
  obtain ⟨⟨a0, a1, a2, a3, a4, a5, a6, b1, b2, b3, b4, b5⟩, hM, hP, hS, hE, -⟩ := hJ
  obtain ⟨m1, m2, m3, -⟩ := (hM m hm).1 y hy
  rw [w_law hW b1 m3, w_cls hW a2 b1 b4 hS hE (by omega) m1 m3]
  have h1 := cW_le hW b1 m y
  have h2 := Nat.mul_le_mul h1 m3
  exact ⟨rfl, _, by omega, rfl⟩
theorem d_eq {t : Nat} {σ : LT} {τ : CT} {q12 : Int64} {n14 n15 n16 n17 : Nat} (hJ : J t σ τ q12 n14 n15 n16 n17) (hW : LW σ) {m y : Nat} (hm : m < 3) (hy : y < 3) : fX7_dueOf τ m y = fL_due σ n14 m y := by
  obtain ⟨hw, -⟩ := w_eq hJ hW hm hy
  obtain ⟨-, hM, -, -, -, -, -, -, -, -, hY, -⟩ := hJ
  obtain ⟨-, -, -, hf⟩ := (hM m hm).1 y hy
  obtain ⟨y1, y2, y3, y4, y5, -⟩ := hY.1 y hy
  unfold fX7_dueOf fL_due fX7_dueOf_B21 fX7_advanceOf
  rw [hw, y1, y3, nI_l (by omega), nI_l (by omega)]
  rcases hf with ⟨f1, f2, f3⟩ | ⟨f1, f2, f3⟩ | ⟨f1, f2, f3, f4⟩
  · rw [f1, f2, f3, if_pos (show (0 : Int32) ≤ 0 by decide), if_pos (show (0 : Int32) = 0 from rfl)]
    by_cases hc : lF σ ≤ y
    · rw [if_pos hc, if_pos (y5.mpr hc)]
    · rw [if_neg hc, if_neg (fun z => hc (y5.mp z))]
  · rw [f1, f2, f3, if_neg (show ¬ (1 : Int32) ≤ 0 by decide)]
    by_cases h : cI τ 33 y = 0
    · rw [if_pos h, if_neg (show ¬ (1 : Int32) = 0 by decide)]
    · rw [if_neg h]
  · rw [f1, f2, f3, if_neg (show ¬ (2 : Int32) ≤ 0 by decide), if_neg (fun z => by have := y5.mp z; omega)]
theorem d_far {t : Nat} {σ : LT} {τ : CT} {q12 : Int64} {n14 n15 n16 n17 : Nat} (hJ : J t σ τ q12 n14 n15 n16 n17) {m y : Nat} (hm : m < 3) (h3 : 3 ≤ y) (hy : y < 20) : fX7_dueOf τ m y = 0 := by
  obtain ⟨-, hM, -, -, -, -, -, -, -, -, hY, -⟩ := hJ
  obtain ⟨-, m2, -⟩ := (hM m hm).2 y h3 hy
  obtain ⟨y1, y2⟩ := hY.2 y h3 hy
  unfold fX7_dueOf fX7_advanceOf
  rw [y1, y2, m2, if_pos rfl, if_pos rfl]
  have h0 : (0 : Int32).toInt64 = 0 := rfl
  have h1 : (0 : Int64) / 1000 = 0 := by decide
  have h2 : (0 : Int64) / 100 = 0 := by decide
  rw [h0, Int64.mul_zero, h1, Int64.zero_mul, h2]
  rfl
/-- what the law adds up -/
def lOwes (σ : LT) (n14 m : Nat) : Int64 := ((-(lL σ 9 m) + fL_due σ n14 m 0) + fL_due σ n14 m 1) + fL_due σ n14 m 2
theorem o_eq {t : Nat} {σ : LT} {τ : CT} {q12 : Int64} {n14 n15 n16 n17 : Nat} (hJ : J t σ τ q12 n14 n15 n16 n17) (hW : LW σ) {m : Nat} (hm : m < 3) : fX7_owedBy τ m = lOwes σ n14 m := by
  have L : ∀ n k a, 3 ≤ k → k + n = 20 → fX7_owedBy_L9 τ m n k a = a := by
    intro n
    induction n with
    | zero => intro k a _ hk; rfl
    | succ n ih =>
      intro k a h3 hk
      simp only [fX7_owedBy_L9, lseq, fX7_owedBy_S9]
      rw [d_far hJ hm h3 (by omega), Int64.add_zero]
      exact ih _ _ (by omega) (by omega)
  have hp := (hJ.2.2.1 m hm).1
  unfold fX7_owedBy
  rw [hp]
  simp only [fX7_owedBy_L9, lseq, fX7_owedBy_S9]
  rw [d_eq hJ hW hm (show 0 < 3 by decide), d_eq hJ hW hm (show 0 + 1 < 3 by decide), d_eq hJ hW hm (show 0 + 1 + 1 < 3 by decide)]
  have := L 17 3 (lOwes σ n14 m) (by decide) (by decide)
  simp only [fX7_owedBy_L9, lseq, fX7_owedBy_S9] at this
  exact this
