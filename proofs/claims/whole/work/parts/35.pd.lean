/-! rules, what is taken together, what an event costs -/
def rS (P : Nat → Prop) [DecidablePred P] : Nat → Nat → Option Nat
  | 0, _ => none
  | n + 1, k => match rS P n (k + 1) with
    | some j => some j
    | none => if P k then some k else none
theorem rS_top (P : Nat → Prop) [DecidablePred P] : ∀ n k, rS P (n + 1) k = if P (k + n) then some (k + n) else rS P n k := by
  intro n
  induction n with
  | zero => intro k; simp only [rS, Nat.add_zero]
  | succ n ih =>
    intro k
    have e : rS P (n + 1 + 1) k = match rS P (n + 1) (k + 1) with
      | some j => some j
      | none => if P k then some k else none := rfl
    rw [e, ih (k + 1), show k + 1 + n = k + (n + 1) by omega]
    by_cases h : P (k + (n + 1))
    · rw [if_pos h, if_pos h]
    · rw [if_neg h, if_neg h]; rfl
theorem rS_lt (P : Nat → Prop) [DecidablePred P] : ∀ n k j, rS P n k = some j → k ≤ j ∧ j < k + n ∧ P j := by
  intro n
  induction n with
  | zero => intro k j h; cases h
  | succ n ih =>
    intro k j h
    rw [rS_top] at h
    by_cases hp : P (k + n)
    · rw [if_pos hp] at h; cases h; exact ⟨by omega, by omega, hp⟩
    · rw [if_neg hp] at h
      obtain ⟨h1, h2, h3⟩ := ih k j h
      exact ⟨h1, by omega, h3⟩
abbrev rP (τ : CT) (k1 j : Nat) : Prop := cI τ 39 (20 * k1 + j) ≠ -1
theorem e_ruleOf {σ : MT} {τ : CT} (hU : RelU σ τ) {k1 y : Nat} (hk : k1 < 4) (hy : y < 20) : fX8_ruleOf σ k1 y = match rS (rP τ k1) (y + 1) 0 with
    | some j => nI (20 * k1 + j)
    | none => -1 := by
  have L : ∀ n k a, k + n = y + 1 → fX8_ruleOf_L5 σ k1 y n k a = match rS (rP τ k1) n k with
      | some j => nI (20 * k1 + j)
      | none => a := by
    intro n
    induction n with
    | zero => intro k a _; rfl
    | succ n ih =>
      intro k a hk2
      have hu := hU (20 * k1 + k) (by omega)
      have e : rS (rP τ k1) (n + 1) k = match rS (rP τ k1) n (k + 1) with
        | some j => some j
        | none => if rP τ k1 k then some k else none := rfl
      have e2 : fX8_ruleOf_L5 σ k1 y (n + 1) k a = fX8_ruleOf_L5 σ k1 y n (k + 1) (fX8_ruleOf_S5 σ k1 y k a) := rfl
      rw [e, e2, ih (k + 1) _ (by omega)]
      cases h : rS (rP τ k1) n (k + 1) with
      | some j => rfl
      | none =>
        unfold fX8_ruleOf_S5
        rcases hu with ⟨u1, u2⟩ | ⟨d, l, u1, u2, u3, u4, u5, u6⟩
        · have hp : ¬ rP τ k1 k := fun z => z u2
          rw [if_pos u1]; simp only [if_neg hp]
        · have hp : rP τ k1 k := fun z => by rw [u6] at z; exact nI_m1 (by omega) z
          rw [if_neg (by rw [u3]; exact nI_m1 (by omega))]; simp only [if_pos hp]
  exact L (y + 1) 0 _ (by omega)
/-- what a kind's rule leaves of what counts -/
def apV (τ : CT) (i : Nat) (x : Int64) : Int64 := if (0 : Int64) < ((if (cI τ 39 i).toInt64 < x then (cI τ 39 i).toInt64 else x) - (cI τ 38 i).toInt64) then ((if (cI τ 39 i).toInt64 < x then (cI τ 39 i).toInt64 else x) - (cI τ 38 i).toInt64) else (0 : Int64)
theorem e_applied {τ : CT} {k1 y : Nat} (x : Int64) (hk : k1 < 4) (hy : y < 20) : fX4_applied τ k1 y x = match rS (rP τ k1) (y + 1) 0 with
    | some j => apV τ (20 * k1 + j) x
    | none => (if (10000000 : Int64) < x then (10000000 : Int64) else x) := by
  have L : ∀ n k, k + n = y + 1 → fX4_applied_L12 τ k1 y x n k = match rS (rP τ k1) n 0 with
      | some j => apV τ (20 * k1 + j) x
      | none => (if (10000000 : Int64) < x then (10000000 : Int64) else x) := by
    intro n
    induction n with
    | zero => intro k _; rfl
    | succ n ih =>
      intro k hk2
      have e2 : fX4_applied_L12 τ k1 y x (n + 1) k = lbind (fX4_applied_S12 τ k1 y x k) (fun q => fX4_applied_L12 τ k1 y x n (k + 1)) := rfl
      have ei : k1 * 20 + y + 1 - k - 1 = 20 * k1 + (0 + n) := by omega
      rw [rS_top, e2]
      unfold fX4_applied_S12
      rw [ei]
      by_cases hp : rP τ k1 (0 + n)
      · rw [if_neg hp]; simp only [if_pos hp]; rfl
      · rw [if_pos (Decidable.not_not.mp hp)]; simp only [if_neg hp]
        exact ih (k + 1) (by omega)
  exact L (y + 1) 0 (by omega)
theorem lN_t {x : Int64} {n : Nat} (hn : n < 2 ^ 62) (h : x = lN n) : x.toInt = n := by rw [h]; exact pk_lT (by omega)
/-- min(x, l) - d, not below 0 -/
theorem apN {x l d : Nat} (hx : x < 2 ^ 40) (hl : l < 2 ^ 40) (hd : d < 2 ^ 40) : (if (0 : Int64) < ((if lN l < lN x then lN l else lN x) - lN d) then ((if lN l < lN x then lN l else lN x) - lN d) else (0 : Int64)) = lN (min l x - d) := by
  have e : (if lN l < lN x then lN l else lN x) = lN (min l x) := by
    by_cases h : l < x
    · rw [if_pos ((pk_lLT (by omega) (by omega)).mpr h), Nat.min_eq_left (by omega)]
    · rw [if_neg (fun z => h ((pk_lLT (by omega) (by omega)).mp z)), Nat.min_eq_right (by omega)]
  rw [e]
  by_cases h : d < min l x
  · rw [lN_sub (by omega), if_pos (show (0 : Int64) < _ from (pk_lLT (a := 0) (by omega) (by omega)).mpr (by omega))]
  · rw [show min l x - d = 0 by omega]
    by_cases h2 : d = min l x
    · rw [h2, lN_sub (Nat.le_refl _), Nat.sub_self]; rfl
    · refine if_neg ?_
      rw [Int64.lt_iff_toInt_lt, Int64.toInt_sub, pk_lT (by omega), pk_lT (by omega)]
      have h3 : (0 : Int64).toInt = 0 := rfl
      rw [h3]
      have : ((min l x : Nat) : Int) - (d : Int) < 0 := by omega
      rw [Int.bmod_eq_of_le (by omega) (by omega)]
      omega
theorem apN2 {x l d : Nat} (hx : x < 2 ^ 40) (hl : l < 2 ^ 40) (hd : d < 2 ^ 40) : (if (0 : Int64) ≤ ((if lN l ≤ lN x then lN l else lN x) - lN d) then ((if lN l ≤ lN x then lN l else lN x) - lN d) else (0 : Int64)) = lN (min l x - d) := by
  have e : (if lN l ≤ lN x then lN l else lN x) = lN (min l x) := by
    by_cases h : l ≤ x
    · rw [if_pos ((pk_lLE (by omega) (by omega)).mpr h), Nat.min_eq_left (by omega)]
    · rw [if_neg (fun z => h ((pk_lLE (by omega) (by omega)).mp z)), Nat.min_eq_right (by omega)]
  rw [e]
  by_cases h : d ≤ min l x
  · rw [lN_sub (by omega), if_pos (show (0 : Int64) ≤ _ from (pk_lLE (a := 0) (by omega) (by omega)).mpr (by omega))]
  · rw [show min l x - d = 0 by omega]
    refine if_neg ?_
    rw [Int64.le_iff_toInt_le, Int64.toInt_sub, pk_lT (by omega), pk_lT (by omega)]
    have h3 : (0 : Int64).toInt = 0 := rfl
    rw [h3]
    rw [Int.bmod_eq_of_le (by omega) (by omega)]
    omega
/-- a claim's group, from its first claim on -/
theorem e_losses {σ : MT} {τ : CT} (hR : Rel σ τ) (hW : CW τ) {c : Nat} (hc : c < cN τ 3) : ∃ q, q ≤ 100000000 * 60 ∧ fX7_lossesOfGroup τ c = lN q ∧ ∀ s, (∀ k, c ≤ k → k < cN τ 3 → grp τ k c → fX7_isCovered τ k = fX7_isCovered τ c) → fX8_together_L5 σ c (cN τ 3 - c) c s = fX8_together_L5 σ c 0 (cN τ 3) (if fX7_isCovered τ c = 0 then s else s + lN q) := by
  have w := hW.1
  have hR0 := hR
  obtain ⟨hN, hB, hM, hP, hS, hE, hO, hC, hZ, hA, hV, hw, hU, hY⟩ := hR
  have L : ∀ n k a, k + n = cN τ 3 → a + 100000000 * n ≤ 100000000 * 60 → ∃ q, q ≤ 100000000 * 60 ∧ a ≤ q ∧ fX7_lossesOfGroup_L5 τ c n k (lN a) = lN q ∧ ∀ s, (∀ j, k ≤ j → j < cN τ 3 → grp τ j c → fX7_isCovered τ j = fX7_isCovered τ c) → fX8_together_L5 σ c n k s = fX8_together_L5 σ c 0 (cN τ 3) (if fX7_isCovered τ c = 0 then s else s + lN (q - a)) := by
    intro n
    induction n with
    | zero =>
      intro k a hk ha
      refine ⟨a, by omega, Nat.le_refl _, rfl, fun s _ => ?_⟩
      rw [show k = cN τ 3 by omega, Nat.sub_self, show (lN 0) = (0 : Int64) from rfl, Int64.add_zero]
      split <;> rfl
    | succ n ih =>
      intro k a hk ha
      have e7 : fX7_lossesOfGroup_L5 τ c (n + 1) k (lN a) = fX7_lossesOfGroup_L5 τ c n (k + 1) (fX7_lossesOfGroup_S5 τ c k (lN a)) := rfl
      have e8 : ∀ s, fX8_together_L5 σ c (n + 1) k s = fX8_together_L5 σ c n (k + 1) (fX8_together_S5 σ c k s) := fun _ => rfl
      have s8 : ∀ s, fX8_together_S5 σ c k s = s + (if grp τ k c then (fX8_counts σ k).toInt64 else 0) := by
        intro s
        unfold fX8_together_S5 fX8_together_B67 fX8_together_B86
        rw [e_grp8 hC hW _ _ (by omega) hc]
        by_cases hg : grp τ k c
        · simp only [if_pos hg]; rw [if_neg n10]
        · simp only [if_neg hg]; rw [if_pos n00]
      by_cases hg : grp τ k c
      · obtain ⟨p, p1, p2⟩ := e_ll hS hC hW (c := k) (by omega)
        have s7 : fX7_lossesOfGroup_S5 τ c k (lN a) = lN (a + p) := by
          unfold fX7_lossesOfGroup_S5
          rw [e_grp7 hW (by omega) hc, if_pos hg, if_neg n10, p2, nI_l (by omega), lN_add]
        obtain ⟨q, q1, q2, q3, q4⟩ := ih (k + 1) (a + p) (by omega) (by omega)
        refine ⟨q, q1, by omega, by rw [e7, s7]; exact q3, fun s hcv => ?_⟩
        rw [e8, s8, if_pos hg, e_counts hR0 hW (by omega), hcv k (Nat.le_refl _) (by omega) hg, q4 _ (fun j h1 h2 h3 => hcv j (by omega) h2 h3)]
        by_cases hcc : fX7_isCovered τ c = 0
        · simp only [if_pos hcc]; rw [show (nI 0).toInt64 = (0 : Int64) from rfl, Int64.add_zero]
        · simp only [if_neg hcc]
          rw [p2, nI_l (by omega), Int64.add_assoc, lN_add, show p + (q - (a + p)) = q - a by omega]
      · have s7 : fX7_lossesOfGroup_S5 τ c k (lN a) = lN a := by
          unfold fX7_lossesOfGroup_S5
          rw [e_grp7 hW (by omega) hc, if_neg hg, if_pos n00]
        obtain ⟨q, q1, q2, q3, q4⟩ := ih (k + 1) a (by omega) (by omega)
        refine ⟨q, q1, q2, by rw [e7, s7]; exact q3, fun s hcv => ?_⟩
        rw [e8, s8, if_neg hg, Int64.add_zero, q4 _ (fun j h1 h2 h3 => hcv j (by omega) h2 h3)]
  obtain ⟨q, q1, q2, q3, q4⟩ := L (cN τ 3 - c) c 0 (by omega) (by omega)
  exact ⟨q, q1, q3, fun s hcv => q4 s hcv⟩
/-- before the first of the group there is nothing -/
theorem e_before {σ : MT} {τ : CT} (hC : RelC σ τ) (hW : CW τ) {c : Nat} (hc : c < cN τ 3) (hf : ∀ k, k < c → ¬ grp τ k c) (s : Int64) : ∀ n k, k + n = c → fX8_together_L5 σ c (n + (cN τ 3 - c)) k s = fX8_together_L5 σ c (cN τ 3 - c) c s := by
  intro n
  induction n with
  | zero => intro k hk; rw [Nat.zero_add, show k = c by omega]
  | succ n ih =>
    intro k hk
    rw [show n + 1 + (cN τ 3 - c) = (n + (cN τ 3 - c)) + 1 by omega]
    have e8 : fX8_together_L5 σ c ((n + (cN τ 3 - c)) + 1) k s = fX8_together_L5 σ c (n + (cN τ 3 - c)) (k + 1) (fX8_together_S5 σ c k s) := rfl
    have s8 : fX8_together_S5 σ c k s = s := by
      unfold fX8_together_S5 fX8_together_B67 fX8_together_B86
      rw [e_grp8 hC hW _ _ (by omega) hc]
      simp only [if_neg (hf k (by omega))]
      rw [if_pos n00, Int64.add_zero]
    rw [e8, s8]
    exact ih (k + 1) (by omega)
/-- the claims of a group are covered, all or none -/
theorem cov_grp {σ : MT} {τ : CT} (hR : Rel σ τ) (hW : CW τ) {k c : Nat} (hk : k < cN τ 3) (hc : c < cN τ 3) (hg : grp τ k c) : fX7_isCovered τ k = fX7_isCovered τ c := by
  have w := hW.1
  obtain ⟨hN, hB, hM, hP, hS, hE, hO, hC, hZ, hA, hV, hw, hU, hY⟩ := hR
  obtain ⟨k1, k2, k3, k4, -⟩ := hC k hk
  obtain ⟨c1, c2, c3, c4, -⟩ := hC c hc
  have hd : cK τ 16 (cK τ 13 c) < 2000 := hW.2.2.2.2.2.2.2.1 _ (hW.2.2.2.2.1 c hc)
  have hy := hY (cK τ 16 (cK τ 13 c) / 100) (by omega)
  unfold fX7_isCovered
  rw [hg.1, hg.2.1]
  by_cases h : cI τ 33 (cK τ 16 (cK τ 13 c) / 100) = 0
  · rw [if_pos h, if_pos h]
  · rw [if_neg h, if_neg h]
    have hcl : ¬ mN σ 34 ≤ cK τ 16 (cK τ 13 c) / 100 := fun z => h (hy.2.2.1.mpr z)
    obtain ⟨v1, v2⟩ := hw c hc (by rw [c4]; omega)
    have hk9 := hw k hk (by rw [k4, hg.1]; omega)
    rw [← v1, ← hk9.1]
    exact v2 k hk (by rw [k1, c1]; exact hg.2.1) (by rw [k3, c3]; exact hg.1)
theorem e_together {σ : MT} {τ : CT} (hR : Rel σ τ) (hW : CW τ) {c : Nat} (hc : c < cN τ 3) (hf : ∀ k, k < c → ¬ grp τ k c) : ∃ q, q ≤ 10000000 ∧ fX8_together σ c = (if fX7_isCovered τ c = 0 then 0 else lN q) ∧ fX4_applied τ (cK τ 15 c) (cK τ 16 (cK τ 13 c) / 100) (fX7_lossesOfGroup τ c) = lN q := by
  have w := hW.1
  have hR0 := hR
  obtain ⟨hN, hB, hM, hP, hS, hE, hO, hC, hZ, hA, hV, hw, hU, hY⟩ := hR
  obtain ⟨c1, c2, c3, c4, -⟩ := hC c hc
  have hd : cK τ 16 (cK τ 13 c) < 2000 := hW.2.2.2.2.2.2.2.1 _ (hW.2.2.2.2.1 c hc)
  have hkd := hW.2.2.2.2.2.2.1 c hc
  obtain ⟨x, x1, x2, x3⟩ := e_losses hR0 hW hc
  have e0 : fX8_together σ c = fX8_together_L5 σ c 0 (cN τ 3) (if fX7_isCovered τ c = 0 then 0 else lN x) := by
    unfold fX8_together
    rw [hN.2.2.2.2.1, show cN τ 3 = c + (cN τ 3 - c) by omega, e_before hC hW hc hf 0 c 0 (by omega), x3 _ (fun k _ h2 h3 => cov_grp hR0 hW h2 hc h3), Int64.zero_add]
    rw [show c + (cN τ 3 - c) = cN τ 3 by omega]
  have e1 : ∀ s, fX8_together_L5 σ c 0 (cN τ 3) s = (match rS (rP τ (cK τ 15 c)) (cK τ 16 (cK τ 13 c) / 100 + 1) 0 with
      | some j => (if (0 : Int64) ≤ ((if (cI τ 39 (20 * cK τ 15 c + j)).toInt64 ≤ s then (cI τ 39 (20 * cK τ 15 c + j)).toInt64 else s) - (cI τ 38 (20 * cK τ 15 c + j)).toInt64) then ((if (cI τ 39 (20 * cK τ 15 c + j)).toInt64 ≤ s then (cI τ 39 (20 * cK τ 15 c + j)).toInt64 else s) - (cI τ 38 (20 * cK τ 15 c + j)).toInt64) else 0)
      | none => (if (0 : Int64) ≤ (if (10000000 : Int64) ≤ s then (10000000 : Int64) else s) - (nI 0).toInt64 then (if (10000000 : Int64) ≤ s then (10000000 : Int64) else s) - (nI 0).toInt64 else 0)) := by
    intro s
    have hr := e_ruleOf hU (k1 := cK τ 15 c) (y := cK τ 16 (cK τ 13 c) / 100) hkd (by omega)
    simp only [fX8_together_L5, fX8_together_B135, fX8_together_B150, fX8_together_B167]
    rw [c2, c4, hr]
    cases h : rS (rP τ (cK τ 15 c)) (cK τ 16 (cK τ 13 c) / 100 + 1) 0 with
    | none => simp only [if_true]
    | some j =>
      obtain ⟨j1, j2, j3⟩ := rS_lt _ _ _ _ h
      rcases hU (20 * cK τ 15 c + j) (by omega) with ⟨u1, u2⟩ | ⟨d, l, u1, u2, u3, u4, u5, u6⟩
      · exact absurd u2 j3
      · simp only [if_neg (nI_m1 (n := 20 * cK τ 15 c + j) (by omega)), tn_nI (n := 20 * cK τ 15 c + j) (by omega)]
        rw [u3, u4, u5, u6]
  rw [e0, e1, e_applied _ hkd (by omega), x2]
  cases h : rS (rP τ (cK τ 15 c)) (cK τ 16 (cK τ 13 c) / 100 + 1) 0 with
  | none =>
    refine ⟨min 10000000 x, by omega, ?_, ?_⟩
    · by_cases hcc : fX7_isCovered τ c = 0
      · simp only [if_pos hcc]; decide
      · simp only [if_neg hcc]
        exact apN2 (x := x) (l := 10000000) (d := 0) (by omega) (by omega) (by omega)
    · show (if lN 10000000 < lN x then lN 10000000 else lN x) = _
      by_cases hl : 10000000 < x
      · rw [if_pos ((pk_lLT (by omega) (by omega)).mpr hl), Nat.min_eq_left (by omega)]
      · rw [if_neg (fun z => hl ((pk_lLT (by omega) (by omega)).mp z)), Nat.min_eq_right (by omega)]
  | some j =>
    obtain ⟨j1, j2, j3⟩ := rS_lt _ _ _ _ h
    rcases hU (20 * cK τ 15 c + j) (by omega) with ⟨u1, u2⟩ | ⟨d, l, u1, u2, u3, u4, u5, u6⟩
    · exact absurd u2 j3
    · refine ⟨min l x - d, by omega, ?_, ?_⟩
      · by_cases hcc : fX7_isCovered τ c = 0
        · simp only [if_pos hcc]
          rw [u4, u6, nI_l (by omega), nI_l (by omega)]
          have h9 := apN2 (x := 0) (l := l) (d := d) (by omega) (by omega) (by omega)
          rw [show min l 0 - d = 0 by omega] at h9
          exact h9
        · simp only [if_neg hcc]
          rw [u4, u6, nI_l (by omega), nI_l (by omega)]
          exact apN2 (by omega) (by omega) (by omega)
      · show apV τ (20 * cK τ 15 c + j) (lN x) = _
        unfold apV
        rw [u4, u6, nI_l (by omega), nI_l (by omega)]
        exact apN (by omega) (by omega) (by omega)
