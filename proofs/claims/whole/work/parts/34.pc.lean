/-! coverage, groups, costs -/
theorem i32_nlt {a b : Int32} : ¬ a < b ↔ b ≤ a := by rw [Int32.lt_iff_toInt_lt, Int32.le_iff_toInt_le]; omega
theorem i32_nle {a b : Int32} : ¬ a ≤ b ↔ b < a := by rw [Int32.lt_iff_toInt_lt, Int32.le_iff_toInt_le]; omega
theorem nI_m1 {n : Nat} (h : n < 2 ^ 31) : ¬ nI n = -1 := by
  intro z
  have z2 := congrArg Int32.toInt z
  rw [nI_toInt h] at z2
  have : (-1 : Int32).toInt = -1 := by decide
  omega
theorem e_on {σ : MT} {τ : CT} (hE : RelE σ τ) (hW : CW τ) {k d : Nat} (hk : k < cN τ 2) (hd : d < 2000) : (if nI d < mI σ 13 k then nI 0 else if mI σ 14 k = -1 then nI 1 else if mI σ 14 k ≤ nI d then nI 0 else nI 1) = fX1_isOn τ k (nI d) := by
  have w := hW.1
  obtain ⟨e1, f, f1, f2, f3, f4⟩ := hE k hk
  unfold fX1_isOn
  rw [f2, f3]
  by_cases c1 : nI d < nI f
  · rw [if_pos c1, if_pos c1]
  · rw [if_neg c1, if_neg c1]
    rcases f4 with ⟨g1, g2⟩ | ⟨u, g1, g2, g3⟩
    · rw [if_pos g1, g2, if_neg (by rw [nI_leI (by omega) (by omega)]; omega)]
    · rw [g2, g3, if_neg (nI_m1 (by omega))]
theorem was_01 (τ : CT) (s : Nat) (d : Int32) : ∀ n k, fX7_wasEntered_L2 τ s d n k = nI 0 ∨ fX7_wasEntered_L2 τ s d n k = nI 1 := by
  intro n
  induction n with
  | zero => intro k; exact Or.inl rfl
  | succ n ih =>
    intro k
    simp only [fX7_wasEntered_L2, fX7_wasEntered_S2]
    repeat' split
    all_goals first | exact ih _ | exact Or.inr rfl
theorem was_s (τ : CT) (s : Nat) (d : Int32) (n k : Nat) : fX7_wasEntered_L2 τ s d (n + 1) k = if cK τ 11 k = s then (if fX1_isOn τ k d = 0 then fX7_wasEntered_L2 τ s d n (k + 1) else nI 1) else fX7_wasEntered_L2 τ s d n (k + 1) := by
  show lbind (fX7_wasEntered_S2 τ s d k) (fun q => fX7_wasEntered_L2 τ s d n (k + 1)) = _
  unfold fX7_wasEntered_S2
  repeat' split
  all_goals rfl
theorem e_cov {σ : MT} {τ : CT} (hR : Rel σ τ) (hW : CW τ) {c : Nat} (hc : c < cN τ 3) : fX8_isCovered σ c = fX7_isCovered τ c ∧ (fX7_isCovered τ c = nI 0 ∨ fX7_isCovered τ c = nI 1) := by
  have w := hW.1
  obtain ⟨hN, hB, hM, hP, hS, hE, hO, hC, hZ, hA, hV, hw, hU, hY⟩ := hR
  obtain ⟨c1, c2, c3, c4, -⟩ := hC c hc
  have hd : cK τ 16 (cK τ 13 c) < 2000 := hW.2.2.2.2.2.2.2.1 _ (hW.2.2.2.2.1 c hc)
  have hs := hW.2.2.2.1 c hc
  have ho := hW.2.1 _ hs
  have hs1 := (hS _ hs).1
  have hst := ((hP (cK τ 10 (cK τ 12 c)) (by omega)).1 ho).2
  have hN34 := hN.2.2.2.2.2.2.2.1
  have L : ∀ n k, k + n = cN τ 2 → fX8_isCovered_L27 σ c n k (nI 0) = (if fX7_wasEntered_L2 τ (cK τ 12 c) (nI (cK τ 16 (cK τ 13 c))) n k = 0 then nI 0 else (if fX3_isStoppedOn τ (cK τ 10 (cK τ 12 c)) (nI (cK τ 16 (cK τ 13 c))) = 0 then nI 1 else nI 0)) ∧ fX8_isCovered_L27 σ c n k (nI 1) = (if fX3_isStoppedOn τ (cK τ 10 (cK τ 12 c)) (nI (cK τ 16 (cK τ 13 c))) = 0 then nI 1 else nI 0) := by
    intro n
    induction n with
    | zero =>
      intro k _
      refine ⟨rfl, ?_⟩
      simp only [fX8_isCovered_L27]
      rw [if_neg n10, c1, hs1, hst, c4]
      by_cases h1 : cI τ 20 (cK τ 10 (cK τ 12 c)) = -1
      · have e : fX3_isStoppedOn τ (cK τ 10 (cK τ 12 c)) (nI (cK τ 16 (cK τ 13 c))) = nI 0 := by unfold fX3_isStoppedOn; rw [if_pos h1]
        rw [if_pos h1, e]; rfl
      · rw [if_neg h1]
        by_cases h2 : cI τ 20 (cK τ 10 (cK τ 12 c)) ≤ nI (cK τ 16 (cK τ 13 c))
        · have e : fX3_isStoppedOn τ (cK τ 10 (cK τ 12 c)) (nI (cK τ 16 (cK τ 13 c))) = nI 1 := by unfold fX3_isStoppedOn; rw [if_neg h1, if_neg (i32_nlt.mpr h2)]
          rw [if_pos h2, e]; rfl
        · have e : fX3_isStoppedOn τ (cK τ 10 (cK τ 12 c)) (nI (cK τ 16 (cK τ 13 c))) = nI 0 := by unfold fX3_isStoppedOn; rw [if_neg h1, if_pos (i32_nle.mp h2)]
          rw [if_neg h2, e]; rfl
    | succ n ih =>
      intro k hk
      obtain ⟨i1, i2⟩ := ih (k + 1) (by omega)
      simp only [fX8_isCovered_L27, lseq, fX8_isCovered_S27, fX8_isCovered_B80]
      rw [was_s]
      refine ⟨?_, ?_⟩
      · rw [if_pos (show nI 0 = 0 from rfl), c1, c4, e_on hE hW (by omega) hd, (hE k (by omega)).1]
        by_cases h1 : cK τ 11 k = cK τ 12 c
        · rw [if_pos (congrArg nI h1), if_pos h1]
          by_cases h2 : fX1_isOn τ k (nI (cK τ 16 (cK τ 13 c))) = 0
          · rw [if_pos h2, if_pos h2]; exact i1
          · rw [if_neg h2, if_neg h2, i2]; rfl
        · have hk11 := hW.2.2.1 k (by omega)
          rw [if_neg (by rw [nI_eq (by omega) (by omega)]; exact h1), if_neg h1]; exact i1
      · rw [if_neg n10]; exact i2
  have hy := hY (cK τ 16 (cK τ 13 c) / 100) (by omega)
  unfold fX8_isCovered fX7_isCovered fX7_wasEntered
  rw [c4]
  by_cases hcl : mN σ 34 ≤ cK τ 16 (cK τ 13 c) / 100
  · rw [if_pos (nI_le hcl (by omega)), if_pos (hy.2.2.1.mpr hcl), hN.2.2.2.1, (L _ 0 (by omega)).1]
    refine ⟨?_, ?_⟩
    · by_cases h1 : fX7_wasEntered_L2 τ (cK τ 12 c) (nI (cK τ 16 (cK τ 13 c))) (cN τ 2) 0 = 0
      · simp only [if_pos h1]; split <;> rfl
      · simp only [if_neg h1]
    · repeat' split
      all_goals first | exact Or.inl rfl | exact Or.inr rfl
  · have h9 := (hw c hc (by rw [c4]; omega)).1
    rw [if_neg (by rw [nI_leI (by omega) (by omega)]; exact hcl), if_neg (fun z => hcl (hy.2.2.1.mp z))]
    exact ⟨h9, hW.2.2.2.2.2.2.2.2.2.2.2.1 c⟩
abbrev grp (τ : CT) (a b : Nat) : Prop := cK τ 13 a = cK τ 13 b ∧ cK τ 12 a = cK τ 12 b ∧ cK τ 15 a = cK τ 15 b
theorem e_grp7 {τ : CT} (hW : CW τ) {a b : Nat} (ha : a < cN τ 3) (hb : b < cN τ 3) : fX0_isOfGroup τ a b = if grp τ a b then nI 1 else nI 0 := by
  have w := hW.1
  have k1 := hW.2.2.2.2.2.2.1 a ha
  have k2 := hW.2.2.2.2.2.2.1 b hb
  unfold fX0_isOfGroup
  by_cases h1 : cK τ 13 a = cK τ 13 b
  · rw [if_pos h1]
    by_cases h2 : cK τ 12 a = cK τ 12 b
    · rw [if_pos h2]
      by_cases h3 : cK τ 15 a = cK τ 15 b
      · rw [if_pos (congrArg nI h3), if_pos ⟨h1, h2, h3⟩]
      · rw [if_neg (by rw [nI_eq (by omega) (by omega)]; exact h3), if_neg (fun z => h3 z.2.2)]
    · rw [if_neg h2, if_neg (fun z => h2 z.2.1)]
  · rw [if_neg h1, if_neg (fun z => h1 z.1)]
theorem e_grp8 {σ : MT} {τ : CT} (hC : RelC σ τ) (hW : CW τ) {a b : Nat} {α : Type} (x y : α) (ha : a < cN τ 3) (hb : b < cN τ 3) : (if nI (mK σ 25 a) = nI (mK σ 25 b) then (if nI (mK σ 21 a) = nI (mK σ 21 b) then (if nI (mK σ 22 a) = nI (mK σ 22 b) then x else y) else y) else y) = if grp τ a b then x else y := by
  have w := hW.1
  have k1 := hW.2.2.2.2.2.2.1 a ha
  have k2 := hW.2.2.2.2.2.2.1 b hb
  have v1 := hW.2.2.2.2.1 a ha
  have v2 := hW.2.2.2.2.1 b hb
  have s1 := hW.2.2.2.1 a ha
  have s2 := hW.2.2.2.1 b hb
  obtain ⟨a1, a2, a3, -⟩ := hC a ha
  obtain ⟨b1, b2, b3, -⟩ := hC b hb
  rw [a1, a2, a3, b1, b2, b3]
  by_cases h1 : cK τ 13 a = cK τ 13 b
  · rw [if_pos (congrArg nI h1)]
    by_cases h2 : cK τ 12 a = cK τ 12 b
    · rw [if_pos (congrArg nI h2)]
      by_cases h3 : cK τ 15 a = cK τ 15 b
      · rw [if_pos (congrArg nI h3), if_pos ⟨h1, h2, h3⟩]
      · rw [if_neg (by rw [nI_eq (by omega) (by omega)]; exact h3), if_neg (fun z => h3 z.2.2)]
    · rw [if_neg (by rw [nI_eq (by omega) (by omega)]; exact h2), if_neg (fun z => h2 z.2.1)]
  · rw [if_neg (by rw [nI_eq (by omega) (by omega)]; exact h1), if_neg (fun z => h1 z.1)]
theorem e_first {σ : MT} {τ : CT} (hC : RelC σ τ) (hW : CW τ) {c : Nat} (hc : c < cN τ 3) : fX8_isFirst σ c = fX7_isFirstOfItsGroup τ c ∧ (fX7_isFirstOfItsGroup τ c ≠ 0 → ∀ k, k < c → ¬ grp τ k c) := by
  have L0 : ∀ n k, fX8_isFirst_L4 σ c n k (nI 0) = nI 0 := by
    intro n
    induction n with
    | zero => intro k; rfl
    | succ n ih => intro k; simp only [fX8_isFirst_L4, lseq, fX8_isFirst_S4]; rw [if_pos (show nI 0 = 0 from rfl)]; exact ih _
  have L : ∀ n k, k + n = c → fX8_isFirst_L4 σ c n k (nI 1) = fX7_isFirstOfItsGroup_L2 τ c n k ∧ (fX7_isFirstOfItsGroup_L2 τ c n k ≠ 0 → ∀ j, k ≤ j → j < c → ¬ grp τ j c) := by
    intro n
    induction n with
    | zero => intro k hk; exact ⟨rfl, fun _ j h1 h2 => absurd h2 (by omega)⟩
    | succ n ih =>
      intro k hk
      obtain ⟨i1, i2⟩ := ih (k + 1) (by omega)
      simp only [fX8_isFirst_L4, lseq, fX8_isFirst_S4, fX7_isFirstOfItsGroup_L2, fX7_isFirstOfItsGroup_S2]
      rw [if_neg n10, e_grp8 hC hW _ _ (by omega) hc, e_grp7 hW (by omega) hc]
      by_cases hg : grp τ k c
      · simp only [if_pos hg, if_neg n10]
        exact ⟨L0 _ _, fun z => absurd rfl z⟩
      · simp only [if_neg hg, if_pos n00]
        refine ⟨i1, fun z j h1 h2 => ?_⟩
        by_cases hjk : j = k
        · subst hjk; exact hg
        · exact i2 z j (by omega) h2
  unfold fX8_isFirst fX7_isFirstOfItsGroup
  obtain ⟨i1, i2⟩ := L c 0 (by omega)
  exact ⟨i1, fun z k hk => i2 z k (Nat.zero_le _) hk⟩
theorem e_ll {σ : MT} {τ : CT} (hS : RelS σ τ) (hC : RelC σ τ) (hW : CW τ) {c : Nat} (hc : c < cN τ 3) : ∃ q, q ≤ 100000000 ∧ fX0_limitedLoss τ c = nI q := by
  obtain ⟨-, -, -, -, -, -, -, -, ⟨q, q1, q2⟩, -⟩ := hC c hc
  obtain ⟨-, -, t, t1, t2, t3⟩ := hS _ (hW.2.2.2.1 c hc)
  unfold fX0_limitedLoss
  rw [q2, t3, pk_mul]
  split
  · split
    · exact ⟨5000 * t, by omega, rfl⟩
    · exact ⟨q, q1, rfl⟩
  · exact ⟨q, q1, rfl⟩
theorem e_counts {σ : MT} {τ : CT} (hR : Rel σ τ) (hW : CW τ) {c : Nat} (hc : c < cN τ 3) : fX8_counts σ c = if fX7_isCovered τ c = 0 then nI 0 else fX0_limitedLoss τ c := by
  obtain ⟨hcov, -⟩ := e_cov hR hW hc
  obtain ⟨hN, hB, hM, hP, hS, hE, hO, hC, hZ, hA, hV, hw, hU, hY⟩ := hR
  obtain ⟨c1, c2, c3, c4, c5, c6, c7, c8, -⟩ := hC c hc
  have hs2 := (hS _ (hW.2.2.2.1 c hc)).2.1
  unfold fX8_counts fX8_counts_B35 fX8_counts_B45 fX0_limitedLoss
  rw [hcov, c5, c8, c1, hs2]
  by_cases h1 : cI τ 27 c = 0
  · rw [if_pos h1, if_pos h1]
    by_cases h2 : nI 5000 * cI τ 21 (cK τ 12 c) < cI τ 24 c
    · rw [if_pos h2, if_pos (by rw [Int32.le_iff_toInt_le]; rw [Int32.lt_iff_toInt_lt] at h2; omega)]
    · rw [if_neg h2]
      by_cases h3 : nI 5000 * cI τ 21 (cK τ 12 c) ≤ cI τ 24 c
      · have h4 : nI 5000 * cI τ 21 (cK τ 12 c) = cI τ 24 c := Int32.le_antisymm h3 (i32_nlt.mp h2)
        rw [if_pos h3, h4]
      · rw [if_neg h3]
  · rw [if_neg h1, if_neg h1]
