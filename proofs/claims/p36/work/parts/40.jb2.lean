/-! what the club bears of an event: by ships and kinds, and by the first claims of the groups -/
theorem sumN_one {f : Nat → Nat} {c : Nat} : ∀ n, c < n → (∀ j, j < n → j ≠ c → f j = 0) → sumN f n = f c
  | 0, h, _ => by omega
  | n + 1, h, h0 => by
    show sumN f n + f n = f c
    by_cases hc : c = n
    · subst hc
      have : sumN f c = 0 := by
        rw [sumN_congr c (g := fun _ => 0) (fun k hk => h0 k (by omega) (by omega))]; exact sumN_zero c
      omega
    · rw [sumN_one n (by omega) (fun j hj hn => h0 j (by omega) hn), h0 n (by omega) (Ne.symm hc)]; rfl
theorem sumN_all0 {f : Nat → Nat} : ∀ n, (∀ j, j < n → f j = 0) → sumN f n = 0 := fun n h => by
  rw [sumN_congr n (g := fun _ => 0) h]; exact sumN_zero n
theorem lHs_0 {σ : LT} {n1 v s k : Nat} : ∀ n, lHs σ n1 v s k n = 0 ↔ ∀ c, c < n → gm σ v s k c → fL_covered σ n1 c = 0
  | 0 => ⟨fun _ c h => by omega, fun _ => rfl⟩
  | n + 1 => by
    show (if gm σ v s k n ∧ ¬ fL_covered σ n1 n = 0 then 1 else lHs σ n1 v s k n) = 0 ↔ _
    by_cases h : gm σ v s k n ∧ ¬ fL_covered σ n1 n = 0
    · rw [if_pos h]
      exact ⟨fun z => by omega, fun z => absurd (z n (by omega) h.1) h.2⟩
    · rw [if_neg h, lHs_0 n]
      refine ⟨fun z c hc g => ?_, fun z c hc g => z c (by omega) g⟩
      by_cases hn : c = n
      · subst hn
        by_cases h9 : fL_covered σ n1 c = 0
        · exact h9
        · exact absurd ⟨g, h9⟩ h
      · exact z c (by omega) g
section JBE
variable {t : Nat} {σ : LT} {τ : CT} {q12 : Int64} {n14 n15 n16 n17 : Nat}
theorem cov_same (hJ : J t σ τ q12 n14 n15 n16 n17) {c d : Nat} (hc : c < n15) (hd : d < n15) (h1 : lK σ 3 (6 * d) = lK σ 3 (6 * c)) (h2 : lK σ 3 (6 * d + 4) = lK σ 3 (6 * c + 4)) : fL_covered σ n14 d = fL_covered σ n14 c := by
  obtain ⟨-, -, -, -, -, -, hJC, -, hJW, -⟩ := hJ
  obtain ⟨-, -, -, -, c5, -⟩ := hJC.1 c hc
  obtain ⟨-, -, -, -, d5, -⟩ := hJC.1 d hd
  have h3 : lK σ 3 (6 * d + 2) = lK σ 3 (6 * c + 2) := by rw [← c5, ← d5, h2]
  have L : ∀ n k, fL_covered_L90 σ n14 d n k = fL_covered_L90 σ n14 c n k := by
    intro n
    induction n with
    | zero => intro k; rfl
    | succ n ih =>
      intro k
      simp only [fL_covered_L90, fL_covered_S90]
      rw [ih, h1, h3]
  unfold fL_covered fL_covered_B87
  rw [L, h1, h3]
  by_cases h4 : lF σ ≤ lK σ 3 (6 * c + 2) / 100
  · rw [if_pos h4, if_pos h4]
  · rw [if_neg h4, if_neg h4, hJW.2 c hc (by omega) d hd h1 h2]
theorem clim_le (hJ : J t σ τ q12 n14 n15 n16 n17) {c : Nat} (hc : c < n15) : clim σ c ≤ 100000000 := by
  obtain ⟨-, -, -, -, -, -, hJC, -⟩ := hJ
  obtain ⟨-, -, -, -, -, -, -, c8, -⟩ := hJC.1 c hc
  unfold clim
  split <;> omega
theorem gsum_le (hJ : J t σ τ q12 n14 n15 n16 n17) (P : Nat → Prop) [DecidablePred P] : sumN (fun c => if P c then clim σ c else 0) n15 ≤ 1000000000 := by
  have h1 := sumN_le (f := fun c => if P c then clim σ c else 0) (b := 100000000) n15 (fun c hc => by
    show (if P c then clim σ c else 0) ≤ _
    split
    · exact clim_le hJ hc
    · omega)
  have h2 : n15 ≤ 10 := hJ.1.2.2.2.2.2.2.2.2.1
  have := Nat.mul_le_mul_left 100000000 h2
  omega
/-- one ship's claims of one kind -/
def bN (σ : LT) (n14 n15 v Y s k : Nat) : Nat := if lHs σ n14 v s k n15 = 0 then 0 else apN (rN σ k (Y + 1)) (lSm σ n14 v s k n15)
def brN (σ : LT) (Y T : Nat) : Nat := if lI σ 5 (3 * Y) = -1 then T else if tn (lI σ 5 (3 * Y)) < T then tn (lI σ 5 (3 * Y)) + (min T (tn (lI σ 5 (3 * Y + 1))) - tn (lI σ 5 (3 * Y))) * tn (lI σ 5 (3 * Y + 2)) / 100 + (T - tn (lI σ 5 (3 * Y + 1))) else T
theorem brN_le (hJ : J t σ τ q12 n14 n15 n16 n17) {Y : Nat} (hY : Y < 3) (T : Nat) : brN σ Y T ≤ T := by
  obtain ⟨-, -, -, -, -, -, -, -, -, -, hJY, -⟩ := hJ
  obtain ⟨-, -, -, -, -, h⟩ := hJY.1 Y hY
  unfold brN
  rcases h with ⟨p1, p2⟩ | ⟨p1, r, b, q, r1, r2, b1, q1, p2, p3, p4, p5, p6, p7⟩
  · rw [if_pos p2]; exact Nat.le_refl _
  · rw [p2, p4, p6, if_neg (nI_m1 (by omega)), tn_nI (by omega), tn_nI (by omega), tn_nI (by omega)]
    by_cases h : r < T
    · rw [if_pos h]
      have h1 : (min T b - r) * q / 100 ≤ min T b - r := by
        have := Nat.mul_le_mul_left (min T b - r) q1
        omega
      omega
    · rw [if_neg h]; exact Nat.le_refl _
theorem br_law (hJ : J t σ τ q12 n14 n15 n16 n17) {v Y T : Nat} (hY : Y < 3) (hT : T < 2 ^ 30) : fL_bears_L9 σ n14 n15 v 0 5 (lN T) Y = lN (brN σ Y T) := by
  obtain ⟨-, -, -, -, -, -, -, -, -, -, hJY, -⟩ := hJ
  obtain ⟨-, -, -, -, -, h⟩ := hJY.1 Y hY
  unfold brN
  simp only [fL_bears_L9, fL_bears_B375]
  rcases h with ⟨p1, p2⟩ | ⟨p1, r, b, q, r1, r2, b1, q1, p2, p3, p4, p5, p6, p7⟩
  · rw [p2, if_pos (by decide), if_pos rfl]
  · rw [p2, p4, p6, if_neg (nI_pos (by omega)), if_neg (nI_m1 (by omega)), tn_nI (by omega), tn_nI (by omega), tn_nI (by omega), nI_l (by omega), nI_l (by omega), nI_l (by omega)]
    by_cases h : r < T
    · have h1 := Nat.mul_le_mul_left (min T b - r) q1
      rw [if_pos ((lN_lt (by omega) (by omega)).mpr h), if_pos h, lN_m T b (by omega) (by omega), lN_sub (by omega), lN_mul, show (100 : Int64) = lN 100 from rfl, pk_lDiv (by omega) (by decide) (by decide), lN_add, lN_add, lN_sub (by omega)]
      congr 1
      omega
    · rw [if_neg (fun z => h ((lN_lt (by omega) (by omega)).mp z)), if_neg h]
theorem br_cls (hJ : J t σ τ q12 n14 n15 n16 n17) {Y T : Nat} (hY : Y < 3) (hT : T < 2 ^ 30) : fX6_borneOf τ Y (lN T) = lN (brN σ Y T) := by
  obtain ⟨-, -, -, -, -, -, -, -, -, -, hJY, -⟩ := hJ
  obtain ⟨-, -, -, -, -, h⟩ := hJY.1 Y hY
  unfold brN fX6_borneOf
  rcases h with ⟨p1, p2⟩ | ⟨p1, r, b, q, r1, r2, b1, q1, p2, p3, p4, p5, p6, p7⟩
  · rw [p1, p2, if_pos rfl, if_pos rfl]
  · rw [if_neg p1, p3, p5, p7, p2, p4, p6, if_neg (nI_m1 (by omega)), tn_nI (by omega), tn_nI (by omega), tn_nI (by omega), nI_l (by omega), nI_l (by omega), nI_l (by omega)]
    by_cases h : r < T
    · have h1 := Nat.mul_le_mul_left (min T b - r) q1
      rw [if_pos ((lN_lt (by omega) (by omega)).mpr h), if_pos h, lN_m2 T b (by omega) (by omega), lN_sub (by omega), lN_mul, show (100 : Int64) = lN 100 from rfl, pk_lDiv (by omega) (by decide) (by decide), lN_add, lN_sub_pos _ _ (by omega) (by omega), lN_add]
    · rw [if_neg (fun z => h ((lN_lt (by omega) (by omega)).mp z)), if_neg h]
theorem bN_le (hJ : J t σ τ q12 n14 n15 n16 n17) {v Y s k : Nat} (hY : Y < 3) (hk : k < 4) : bN σ n14 n15 v Y s k ≤ 10000000 := by
  unfold bN
  split
  · omega
  · exact apN_le (rN_ok hJ.2.2.2.2.2.2.2.2.2.1 hk (Y + 1) (by omega)) _
def bT (σ : LT) (n14 n15 v Y : Nat) : Nat := sumN (fun s => sumN (bN σ n14 n15 v Y s) 4) 5
theorem bT_le (hJ : J t σ τ q12 n14 n15 n16 n17) {v Y : Nat} (hY : Y < 3) : bT σ n14 n15 v Y ≤ 200000000 := by
  have := sumN_le (f := fun s => sumN (bN σ n14 n15 v Y s) 4) (b := 40000000) 5 (fun s _ => by
    have := sumN_le (f := bN σ n14 n15 v Y s) (b := 10000000) 4 (fun k hk => bN_le hJ hY hk)
    show sumN (bN σ n14 n15 v Y s) 4 ≤ 40000000
    omega)
  unfold bT; omega
theorem be_law (hJ : J t σ τ q12 n14 n15 n16 n17) {v : Nat} (hv : v < n16) : fL_bears σ n14 n15 v = lN (brN σ (cK τ 16 v / 100) (bT σ n14 n15 v (cK τ 16 v / 100))) ∧ cK τ 16 v / 100 < 3 := by
  have hJ0 := hJ
  obtain ⟨⟨a0, a1, a2, a3, a4, a5, a6, b1, b2, b3, b4, b5⟩, -, -, -, -, -, hJC, hJV, hJW, hU, -⟩ := hJ
  obtain ⟨-, c0, hc0, hv0⟩ := hJV v hv
  obtain ⟨-, -, c3, -, c5, c6, -⟩ := hJC.1 c0 hc0
  have hY : cK τ 16 v / 100 < 3 := by rw [← hv0, c3, c5]; omega
  refine ⟨?_, hY⟩
  have hYr : ∀ y0, lYr σ v y0 n15 = cK τ 16 v / 100 := by
    have key : ∀ n, n ≤ n15 → ∀ y0, (∃ c, c < n ∧ lK σ 3 (6 * c + 4) = v) → lYr σ v y0 n = cK τ 16 v / 100 := by
      intro n
      induction n with
      | zero => intro _ y0 h; obtain ⟨c, h1, -⟩ := h; omega
      | succ n ih =>
        intro hn y0 h
        show (if lK σ 3 (6 * n + 4) = v then lK σ 3 (6 * n + 2) / 100 else lYr σ v y0 n) = _
        by_cases h1 : lK σ 3 (6 * n + 4) = v
        · obtain ⟨-, -, -, -, e5, -⟩ := hJC.1 n (by omega)
          rw [if_pos h1, ← e5, h1]
        · rw [if_neg h1]
          obtain ⟨c, h2, h3⟩ := h
          have : c ≠ n := fun z => h1 (z ▸ h3)
          exact ih (by omega) y0 ⟨c, by omega, h3⟩
    exact fun y0 => key n15 (Nat.le_refl _) y0 ⟨c0, hc0, by rw [← c3]; exact hv0⟩
  generalize cK τ 16 v / 100 = Y at hY hYr ⊢
  have S : ∀ s k a y, k < 4 → fL_bears_S18 σ n14 n15 v s k (lN a) y = (lN (a + bN σ n14 n15 v Y s k), Y) := by
    intro s k a y hk
    have h9 := l33 σ n14 n15 v s k (lN a) y n15 0 (by omega)
    unfold fL_bears_S18
    have h8 : fL_bears_L33 σ n14 n15 v s k (lN a) n15 0 y (0 : Int64) 0 = fL_bears_L33 σ n14 n15 v s k (lN a) n15 0 (lYr σ v y 0) (lN (lSm σ n14 v s k 0)) (lHs σ n14 v s k 0) := rfl
    rw [h8, h9, hYr y]
    unfold bN
    by_cases hh : lHs σ n14 v s k n15 = 0
    · rw [if_pos hh, if_pos hh]; rfl
    · have hX := gsum_le hJ0 (fun c => gm σ v s k c ∧ ¬ fL_covered σ n14 c = 0)
      rw [if_neg hh, if_neg hh, ap_law hU hk hY (show lSm σ n14 v s k n15 < 2 ^ 31 from by unfold lSm; omega), lN_add]
  have L18 : ∀ s n k a y, k + n = 4 → (k = 0 ∨ y = Y) → fL_bears_L18 σ n14 n15 v s n k (lN (a + sumN (bN σ n14 n15 v Y s) k)) y = (lN (a + sumN (bN σ n14 n15 v Y s) 4), Y) := by
    intro s n
    induction n with
    | zero =>
      intro k a y hk hy
      have hk : k = 4 := by omega
      subst hk
      simp only [fL_bears_L18]
      rcases hy with hy | hy
      · omega
      · rw [hy]
    | succ n ih =>
      intro k a y hk hy
      simp only [fL_bears_L18, lseq]
      rw [S s k _ y (by omega), Nat.add_assoc]
      exact ih (k + 1) a Y (by omega) (Or.inr rfl)
  have L9 : ∀ n s y, s + n = 5 → (s = 0 ∨ y = Y) → fL_bears_L9 σ n14 n15 v n s (lN (sumN (fun s => sumN (bN σ n14 n15 v Y s) 4) s)) y = lN (brN σ Y (bT σ n14 n15 v Y)) := by
    intro n
    induction n with
    | zero =>
      intro s y hs hy
      have hs : s = 5 := by omega
      subst hs
      rcases hy with hy | hy
      · omega
      · rw [hy]
        have := bT_le hJ0 (v := v) hY
        exact br_law hJ0 hY (by unfold bT at this; omega)
    | succ n ih =>
      intro s y hs hy
      simp only [fL_bears_L9, lseq, fL_bears_S9]
      have h9 := L18 s 4 0 (sumN (fun s => sumN (bN σ n14 n15 v Y s) 4) s) y (by omega) (Or.inl rfl)
      rw [show sumN (bN σ n14 n15 v Y s) 0 = 0 from rfl, Nat.add_zero] at h9
      rw [h9]
      exact ih (s + 1) Y (by omega) (Or.inr rfl)
  unfold fL_bears
  exact L9 5 0 0 (by omega) (Or.inl rfl)
end JBE
