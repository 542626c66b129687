/-! rules: the last that was told, and what it leaves -/
def rN (σ : LT) (k : Nat) : Nat → Option (Nat × Nat)
  | 0 => none
  | y + 1 => if lI σ 4 (6 * k + 2 * y) = -1 then rN σ k y else some (tn (lI σ 4 (6 * k + 2 * y)), tn (lI σ 4 (6 * k + 2 * y + 1)))
def apN (r : Option (Nat × Nat)) (X : Nat) : Nat := match r with
  | none => min X 10000000
  | some (d, l) => min X l - d
def rLm (r : Option (Nat × Nat)) : Int64 := match r with
  | none => 10000000
  | some (_, l) => lN l
def rLs (r : Option (Nat × Nat)) : Int64 := match r with
  | none => 0
  | some (d, _) => lN d
def rOk (r : Option (Nat × Nat)) : Prop := match r with
  | none => True
  | some (d, l) => d ≤ 1000000 ∧ l ≤ 10000000
theorem rN_ok {σ : LT} {τ : CT} (hU : JU σ τ) {k : Nat} (hk : k < 4) : ∀ y, y ≤ 3 → rOk (rN σ k y)
  | 0, _ => trivial
  | y + 1, h => by
    unfold rN
    rcases hU k hk y (by omega) with ⟨u1, u2⟩ | ⟨d, l, d1, l1, u1, u2, u3, u4⟩
    · rw [if_pos u1]; exact rN_ok hU hk y (by omega)
    · rw [u1, u3, if_neg (nI_m1 (by omega)), tn_nI (by omega), tn_nI (by omega)]; exact ⟨d1, l1⟩
theorem apN_le {r : Option (Nat × Nat)} (h : rOk r) (X : Nat) : apN r X ≤ 10000000 := by
  match r, h with
  | none, _ => show min X 10000000 ≤ _; omega
  | some (d, l), h => show min X l - d ≤ _; have := h.2; omega
theorem lN_m (a b : Nat) (ha : a < 2 ^ 31) (hb : b < 2 ^ 31) : (if lN a ≤ lN b then lN a else lN b) = lN (min a b) := by
  by_cases h : a ≤ b
  · rw [if_pos ((lN_le ha hb).mpr h), Nat.min_eq_left h]
  · rw [if_neg (fun z => h ((lN_le ha hb).mp z)), Nat.min_eq_right (by omega)]
theorem lN_m2 (a b : Nat) (ha : a < 2 ^ 31) (hb : b < 2 ^ 31) : (if lN b < lN a then lN b else lN a) = lN (min a b) := by
  by_cases h : b < a
  · rw [if_pos ((lN_lt hb ha).mpr h), Nat.min_eq_right (by omega)]
  · rw [if_neg (fun z => h ((lN_lt hb ha).mp z)), Nat.min_eq_left (by omega)]
theorem lN_0 : (0 : Int64) = lN 0 := rfl
theorem lN_sub_pos (a b : Nat) (ha : a < 2 ^ 31) (hb : b < 2 ^ 31) : (if (0 : Int64) < lN a - lN b then lN a - lN b else 0) = lN (a - b) := by
  by_cases h : b ≤ a
  · rw [lN_sub h]
    by_cases h0 : a - b = 0
    · rw [h0]; rfl
    · rw [if_pos]
      rw [lN_0, lN_lt (by decide) (by omega)]; omega
  · have h1 : (lN a - lN b).toInt = (a : Int) - b := by
      rw [Int64.toInt_sub, lN_toInt ha, lN_toInt hb]
      exact Int.bmod_eq_of_le (by omega) (by omega)
    rw [if_neg, show a - b = 0 by omega]
    · rfl
    · rw [Int64.lt_iff_toInt_lt, h1]
      have : (0 : Int64).toInt = 0 := rfl
      omega
theorem ap_cls {σ : LT} {τ : CT} (hU : JU σ τ) {k Y X : Nat} (hk : k < 4) (hY : Y < 3) (hX : X < 2 ^ 31) : fX4_applied τ k Y (lN X) = lN (apN (rN σ k (Y + 1)) X) := by
  have L : ∀ n j, j + n = Y + 1 → fX4_applied_L12 τ k Y (lN X) n j = lN (apN (rN σ k n) X) := by
    intro n
    induction n with
    | zero =>
      intro j hj
      show (if (10000000 : Int64) < lN X then (10000000 : Int64) else lN X) = lN (min X 10000000)
      exact lN_m2 X 10000000 hX (by decide)
    | succ n ih =>
      intro j hj
      simp only [fX4_applied_L12, fX4_applied_S12]
      rw [show k * 20 + Y + 1 - j - 1 = k * 20 + n by omega]
      unfold rN
      rcases hU k hk n (by omega) with ⟨u1, u2⟩ | ⟨d, l, d1, l1, u1, u2, u3, u4⟩
      · rw [u2, if_pos rfl, if_pos u1, lb_inl]; exact ih _ (by omega)
      · rw [u4, u2, if_neg (nI_m1 (by omega)), u1, u3, if_neg (nI_m1 (by omega)), tn_nI (by omega), tn_nI (by omega), lb_inr, nI_l (by omega), nI_l (by omega), lN_m2 X l hX (by omega)]
        exact lN_sub_pos _ _ (by omega) (by omega)
  exact L (Y + 1) 0 (by omega)
theorem ap_law {σ : LT} {τ : CT} (hU : JU σ τ) {n1 c1 v k Y X : Nat} {a : Int64} (hk : k < 4) (hY : Y < 3) (hX : X < 2 ^ 31) : fL_bears_L209 σ n1 c1 v k a Y (lN X) (Y + 1) 0 (10000000 : Int64) (0 : Int64) = (a + lN (apN (rN σ k (Y + 1)) X), Y) := by
  have L : ∀ n y, y + n = Y + 1 → fL_bears_L209 σ n1 c1 v k a Y (lN X) n y (rLm (rN σ k y)) (rLs (rN σ k y)) = (a + lN (apN (rN σ k (Y + 1)) X), Y) := by
    intro n
    induction n with
    | zero =>
      intro y hy
      have hy : y = Y + 1 := by omega
      subst hy
      simp only [fL_bears_L209, fL_bears_B287]
      have ok := rN_ok hU hk (Y + 1) (by omega)
      have key : (if (if lN X ≤ rLm (rN σ k (Y + 1)) then lN X else rLm (rN σ k (Y + 1))) ≤ rLs (rN σ k (Y + 1)) then a else a + ((if lN X ≤ rLm (rN σ k (Y + 1)) then lN X else rLm (rN σ k (Y + 1))) - rLs (rN σ k (Y + 1)))) = a + lN (apN (rN σ k (Y + 1)) X) := by
        have fin : ∀ w d : Nat, w < 2 ^ 31 → d < 2 ^ 31 → (if lN w ≤ lN d then a else a + (lN w - lN d)) = a + lN (w - d) := by
          intro w d hw hd
          by_cases h : w ≤ d
          · rw [if_pos ((lN_le hw hd).mpr h), show w - d = 0 by omega]; exact (Int64.add_zero a).symm
          · rw [if_neg (fun z => h ((lN_le hw hd).mp z)), lN_sub (by omega)]
        match hr : rN σ k (Y + 1), ok with
        | none, _ =>
          show (if (if lN X ≤ lN 10000000 then lN X else lN 10000000) ≤ lN 0 then a else a + ((if lN X ≤ lN 10000000 then lN X else lN 10000000) - lN 0)) = a + lN (min X 10000000)
          rw [lN_m X _ hX (by decide), fin _ _ (by omega) (by decide)]
          rfl
        | some (d, l), ok =>
          have o1 := ok.1
          have o2 := ok.2
          show (if (if lN X ≤ lN l then lN X else lN l) ≤ lN d then a else a + ((if lN X ≤ lN l then lN X else lN l) - lN d)) = a + lN (min X l - d)
          rw [lN_m X _ hX (by omega), fin _ _ (by omega) (by omega)]
      rw [key]
    | succ n ih =>
      intro y hy
      have e : fL_bears_S209 σ n1 c1 v k a Y (lN X) y (rLm (rN σ k y)) (rLs (rN σ k y)) = (rLm (rN σ k (y + 1)), rLs (rN σ k (y + 1))) := by
        unfold fL_bears_S209
        rw [show rN σ k (y + 1) = if lI σ 4 (6 * k + 2 * y) = -1 then rN σ k y else some (tn (lI σ 4 (6 * k + 2 * y)), tn (lI σ 4 (6 * k + 2 * y + 1))) from rfl]
        rcases hU k hk y (by omega) with ⟨u1, u2⟩ | ⟨d, l, d1, l1, u1, u2, u3, u4⟩
        · rw [u1, if_pos rfl, if_neg (show ¬ (0 : Int32) ≤ -1 by decide), if_neg (show ¬ (0 : Int32) ≤ -1 by decide)]
        · rw [u1, u3, if_neg (nI_m1 (by omega)), if_pos (nI_pos' (by omega)), if_pos (nI_pos' (by omega)), tn_nI (by omega), tn_nI (by omega), nI_l (by omega), nI_l (by omega)]
          rfl
      simp only [fL_bears_L209, lseq]
      rw [e]
      exact ih (y + 1) (by omega)
  exact L (Y + 1) 0 (by omega)
/-! the claims of one ship and kind in an event -/
abbrev gm (σ : LT) (v s k c : Nat) : Prop := lK σ 3 (6 * c + 4) = v ∧ lK σ 3 (6 * c) = s ∧ lK σ 3 (6 * c + 1) = k
def clim (σ : LT) (c : Nat) : Nat := if lK σ 3 (6 * c + 5) &&& 2 = 0 then min (5000 * lK σ 1 (8 + lK σ 3 (6 * c))) (lK σ 3 (6 * c + 3)) else lK σ 3 (6 * c + 3)
def lSm (σ : LT) (n1 v s k : Nat) : Nat → Nat := sumN (fun c => if gm σ v s k c ∧ ¬ fL_covered σ n1 c = 0 then clim σ c else 0)
def lHs (σ : LT) (n1 v s k : Nat) : Nat → Nat
  | 0 => 0
  | n + 1 => if gm σ v s k n ∧ ¬ fL_covered σ n1 n = 0 then 1 else lHs σ n1 v s k n
def lYr (σ : LT) (v y0 : Nat) : Nat → Nat
  | 0 => y0
  | n + 1 => if lK σ 3 (6 * n + 4) = v then lK σ 3 (6 * n + 2) / 100 else lYr σ v y0 n
theorem s33 (σ : LT) (n1 c1 v s k c y h X : Nat) (a : Int64) : fL_bears_S33 σ n1 c1 v s k a c y (lN X) h = (if lK σ 3 (6 * c + 4) = v then lK σ 3 (6 * c + 2) / 100 else y, lN (X + (if gm σ v s k c ∧ ¬ fL_covered σ n1 c = 0 then clim σ c else 0)), if gm σ v s k c ∧ ¬ fL_covered σ n1 c = 0 then 1 else h) := by
  unfold fL_bears_S33 fL_bears_B156
  by_cases h1 : lK σ 3 (6 * c + 4) = v
  · rw [if_pos h1, if_pos h1]
    by_cases h2 : lK σ 3 (6 * c) = s
    · rw [if_pos h2]
      by_cases h3 : lK σ 3 (6 * c + 1) = k
      · rw [if_pos h3]
        by_cases h4 : fL_covered σ n1 c = 0
        · rw [if_pos h4, if_neg (fun z => z.2 h4), if_neg (fun z => z.2 h4)]; rfl
        · have g : gm σ v s k c ∧ ¬ fL_covered σ n1 c = 0 := ⟨⟨h1, h2, h3⟩, h4⟩
          rw [if_neg h4, if_pos (show gm σ v s k c ∧ ¬ fL_covered σ n1 c = 0 from g), if_pos (show gm σ v s k c ∧ ¬ fL_covered σ n1 c = 0 from g)]
          have e9 : lK σ 1 (8 + lK σ 3 (6 * c)) = lK σ 1 (8 + s) := by rw [h2]
          unfold clim
          rw [e9]
          by_cases h5 : 0 < lK σ 3 (6 * c + 5) &&& 2
          · rw [if_pos h5, if_neg (show ¬ lK σ 3 (6 * c + 5) &&& 2 = 0 by omega), lN_add]
          · rw [if_neg h5, if_pos (show lK σ 3 (6 * c + 5) &&& 2 = 0 by omega)]
            by_cases h6 : 5000 * lK σ 1 (8 + s) ≤ lK σ 3 (6 * c + 3)
            · rw [if_pos h6, Nat.min_eq_left h6, lN_add]
            · rw [if_neg h6, Nat.min_eq_right (by omega), lN_add]
      · rw [if_neg h3, if_neg (fun z => h3 z.1.2.2), if_neg (fun z => h3 z.1.2.2)]; rfl
    · rw [if_neg h2, if_neg (fun z => h2 z.1.2.1), if_neg (fun z => h2 z.1.2.1)]; rfl
  · rw [if_neg h1, if_neg h1, if_neg (fun z => h1 z.1.1), if_neg (fun z => h1 z.1.1)]; rfl
theorem l33 (σ : LT) (n1 c1 v s k : Nat) (a : Int64) (y0 : Nat) : ∀ n c, c + n = c1 → fL_bears_L33 σ n1 c1 v s k a n c (lYr σ v y0 c) (lN (lSm σ n1 v s k c)) (lHs σ n1 v s k c) = (if lHs σ n1 v s k c1 = 0 then (a, lYr σ v y0 c1) else fL_bears_L209 σ n1 c1 v k a (lYr σ v y0 c1) (lN (lSm σ n1 v s k c1)) (lYr σ v y0 c1 + 1) 0 (10000000 : Int64) (0 : Int64)) := by
  intro n
  induction n with
  | zero =>
    intro c hc
    have hc : c = c1 := by omega
    subst hc
    rfl
  | succ n ih =>
    intro c hc
    simp only [fL_bears_L33, lseq]
    rw [s33]
    exact ih (c + 1) (by omega)
theorem lYr_one {σ : LT} {v Y : Nat} (hY : ∀ c, lK σ 3 (6 * c + 4) = v → lK σ 3 (6 * c + 2) / 100 = Y) : ∀ n y0, (∃ c, c < n ∧ lK σ 3 (6 * c + 4) = v) → lYr σ v y0 n = Y
  | 0, _, h => by obtain ⟨c, h1, -⟩ := h; omega
  | n + 1, y0, h => by
    show (if lK σ 3 (6 * n + 4) = v then lK σ 3 (6 * n + 2) / 100 else lYr σ v y0 n) = Y
    by_cases h1 : lK σ 3 (6 * n + 4) = v
    · rw [if_pos h1]; exact hY n h1
    · rw [if_neg h1]
      refine lYr_one hY n y0 ?_
      obtain ⟨c, h2, h3⟩ := h
      have : c ≠ n := fun z => h1 (z ▸ h3)
      exact ⟨c, by omega, h3⟩
