/-! the class's sum over the first claims of the groups is the same -/
section JBF
variable {t : Nat} {σ : LT} {τ : CT} {q12 : Int64} {n14 n15 n16 n17 : Nat}
theorem grp_eq (hJ : J t σ τ q12 n14 n15 n16 n17) (hC : CW τ) {a b : Nat} (ha : a < n15) (hb : b < n15) : fX0_isOfGroup τ a b = if gm σ (lK σ 3 (6 * b + 4)) (lK σ 3 (6 * b)) (lK σ 3 (6 * b + 1)) a then nI 1 else nI 0 := by
  obtain ⟨⟨a0, a1, a2, a3, a4, a5, a6, b1, b2, b3, b4, b5⟩, -, -, -, -, -, hJC, -⟩ := hJ
  obtain ⟨c1, c2, c3, -⟩ := hJC.1 a ha
  obtain ⟨d1, d2, d3, -⟩ := hJC.1 b hb
  have k1 := hC.2.2.2.2.2.2.1 a (by omega)
  have k2 := hC.2.2.2.2.2.2.1 b (by omega)
  unfold fX0_isOfGroup
  rw [c1, c2, c3, d1, d2, d3]
  rw [c2] at k1
  rw [d2] at k2
  by_cases h1 : lK σ 3 (6 * a + 4) = lK σ 3 (6 * b + 4)
  · rw [if_pos h1]
    by_cases h2 : lK σ 3 (6 * a) = lK σ 3 (6 * b)
    · rw [if_pos h2]
      by_cases h3 : lK σ 3 (6 * a + 1) = lK σ 3 (6 * b + 1)
      · rw [if_pos (congrArg nI h3), if_pos ⟨h1, h2, h3⟩]
      · rw [if_neg (by rw [nI_eq (by omega) (by omega)]; exact h3), if_neg (fun z => h3 z.2.2)]
    · rw [if_neg h2, if_neg (fun z => h2 z.2.1)]
  · rw [if_neg h1, if_neg (fun z => h1 z.1)]
theorem first_eq (hJ : J t σ τ q12 n14 n15 n16 n17) (hC : CW τ) {c : Nat} (hc : c < n15) : fX7_isFirstOfItsGroup τ c = 0 ↔ ∃ j, j < c ∧ gm σ (lK σ 3 (6 * c + 4)) (lK σ 3 (6 * c)) (lK σ 3 (6 * c + 1)) j := by
  have L : ∀ n k, k + n = c → (fX7_isFirstOfItsGroup_L2 τ c n k = 0 ↔ ∃ j, k ≤ j ∧ j < c ∧ gm σ (lK σ 3 (6 * c + 4)) (lK σ 3 (6 * c)) (lK σ 3 (6 * c + 1)) j) := by
    intro n
    induction n with
    | zero =>
      intro k hk
      exact ⟨fun z => absurd z n10, fun ⟨j, h1, h2, _⟩ => by omega⟩
    | succ n ih =>
      intro k hk
      simp only [fX7_isFirstOfItsGroup_L2, fX7_isFirstOfItsGroup_S2]
      rw [grp_eq hJ hC (by omega) hc]
      by_cases hg : gm σ (lK σ 3 (6 * c + 4)) (lK σ 3 (6 * c)) (lK σ 3 (6 * c + 1)) k
      · rw [if_pos hg, if_neg n10, lb_inr]
        exact ⟨fun _ => ⟨k, Nat.le_refl _, by omega, hg⟩, fun _ => rfl⟩
      · rw [if_neg hg, if_pos n00, lb_inl, ih (k + 1) (by omega)]
        refine ⟨fun ⟨j, h1, h2, h3⟩ => ⟨j, by omega, h2, h3⟩, fun ⟨j, h1, h2, h3⟩ => ⟨j, ?_, h2, h3⟩⟩
        have : j ≠ k := fun z => hg (z ▸ h3)
        omega
  unfold fX7_isFirstOfItsGroup
  rw [L c 0 (by omega)]
  exact ⟨fun ⟨j, _, h2, h3⟩ => ⟨j, h2, h3⟩, fun ⟨j, h2, h3⟩ => ⟨j, Nat.zero_le _, h2, h3⟩⟩
theorem lim_eq (hJ : J t σ τ q12 n14 n15 n16 n17) (hW : LW σ) {c : Nat} (hc : c < n15) : (fX0_limitedLoss τ c).toInt64 = lN (clim σ c) := by
  obtain ⟨-, -, -, hS, -, -, hJC, -⟩ := hJ
  obtain ⟨c1, c2, c3, c4, c5, c6, c7, c8, c9, c10, c11, c12⟩ := hJC.1 c hc
  obtain ⟨s1, s2, s3⟩ := hS _ (hW.2.2.1 c)
  have ht := hW.2.2.2.2.2.2 (lK σ 3 (6 * c))
  unfold fX0_limitedLoss clim
  rw [c1, c7, s2, pk_mul]
  by_cases h : cI τ 27 c = 0
  · rw [if_pos h, if_pos (c10.mp h), xsel_lt (by omega) (by omega), nI_l (by omega)]
  · rw [if_neg h, if_neg (fun z => h (c10.mpr z)), nI_l (by omega)]
theorem loss_eq (hJ : J t σ τ q12 n14 n15 n16 n17) (hW : LW σ) (hC : CW τ) {c : Nat} (hc : c < n15) (hf : ¬ fX7_isFirstOfItsGroup τ c = 0) : fX7_lossesOfGroup τ c = lN (sumN (fun j => if gm σ (lK σ 3 (6 * c + 4)) (lK σ 3 (6 * c)) (lK σ 3 (6 * c + 1)) j then clim σ j else 0) n15) := by
  have h3 : cN τ 3 = n15 := hJ.1.2.2.2.1
  have L : ∀ n k, k + n = n15 → fX7_lossesOfGroup_L5 τ c n k (lN (sumN (fun j => if gm σ (lK σ 3 (6 * c + 4)) (lK σ 3 (6 * c)) (lK σ 3 (6 * c + 1)) j then clim σ j else 0) k)) = lN (sumN (fun j => if gm σ (lK σ 3 (6 * c + 4)) (lK σ 3 (6 * c)) (lK σ 3 (6 * c + 1)) j then clim σ j else 0) n15) := by
    intro n
    induction n with
    | zero =>
      intro k hk
      have hk : k = n15 := by omega
      subst hk
      rfl
    | succ n ih =>
      intro k hk
      simp only [fX7_lossesOfGroup_L5, lseq]
      have e : ∀ X, fX7_lossesOfGroup_S5 τ c k (lN X) = lN (X + if gm σ (lK σ 3 (6 * c + 4)) (lK σ 3 (6 * c)) (lK σ 3 (6 * c + 1)) k then clim σ k else 0) := by
        intro X
        unfold fX7_lossesOfGroup_S5
        rw [grp_eq hJ hC (by omega) hc, lim_eq hJ hW (by omega)]
        by_cases hg : gm σ (lK σ 3 (6 * c + 4)) (lK σ 3 (6 * c)) (lK σ 3 (6 * c + 1)) k
        · rw [if_pos hg, if_neg n10, if_pos hg, lN_add]
        · rw [if_neg hg, if_pos n00, if_neg hg]; rfl
      rw [e]
      exact ih (k + 1) (by omega)
  unfold fX7_lossesOfGroup
  rw [h3]
  have h0 : sumN (fun j => if gm σ (lK σ 3 (6 * c + 4)) (lK σ 3 (6 * c)) (lK σ 3 (6 * c + 1)) j then clim σ j else 0) c = 0 := sumN_all0 c (fun j hj => if_neg (fun g => hf ((first_eq hJ hC hc).mpr ⟨j, hj, g⟩)))
  have := L (n15 - c) c (by omega)
  rw [h0] at this
  exact this
/-- a first claim's part -/
def gN (σ : LT) (τ : CT) (n14 n15 v Y c : Nat) : Nat := if lK σ 3 (6 * c + 4) = v ∧ ¬ fX7_isFirstOfItsGroup τ c = 0 ∧ ¬ fL_covered σ n14 c = 0 then apN (rN σ (lK σ 3 (6 * c + 1)) (Y + 1)) (sumN (fun j => if gm σ (lK σ 3 (6 * c + 4)) (lK σ 3 (6 * c)) (lK σ 3 (6 * c + 1)) j then clim σ j else 0) n15) else 0
theorem co_cls (hJ : J t σ τ q12 n14 n15 n16 n17) (hW : LW σ) (hC : CW τ) {v Y : Nat} (hv : v < n16) (hY : cK τ 16 v / 100 = Y) (hY3 : Y < 3) : fX7_costOf τ v = lN (sumN (gN σ τ n14 n15 v Y) n15) := by
  have h3 : cN τ 3 = n15 := hJ.1.2.2.2.1
  have hn := hJ.1.2.2.2.2.2.2.2.2.1
  have L : ∀ n k, k + n = n15 → fX7_costOf_L13 τ v n k (lN (sumN (gN σ τ n14 n15 v Y) k)) = lN (sumN (gN σ τ n14 n15 v Y) n15) := by
    intro n
    induction n with
    | zero =>
      intro k hk
      have hk : k = n15 := by omega
      subst hk
      rfl
    | succ n ih =>
      intro k hk
      have hkc : k < n15 := by omega
      obtain ⟨c1, c2, c3, -⟩ := hJ.2.2.2.2.2.2.1.1 k hkc
      have k1 := hC.2.2.2.2.2.2.1 k (by omega)
      have e : ∀ X, fX7_costOf_S13 τ v k (lN X) = lN (X + gN σ τ n14 n15 v Y k) := by
        intro X
        unfold fX7_costOf_S13 gN
        rw [c2] at k1
        rw [c3, c2, cov_eq hJ hW hC hkc, hY]
        by_cases h1 : lK σ 3 (6 * k + 4) = v
        · rw [if_pos h1]
          by_cases h2 : fX7_isFirstOfItsGroup τ k = 0
          · rw [if_pos h2, if_neg (fun z => z.2.1 h2)]; rfl
          · rw [if_neg h2]
            by_cases h4 : fL_covered σ n14 k = 0
            · rw [if_pos h4, if_neg (fun z => z.2.2 h4)]; rfl
            · have hX := gsum_le hJ (gm σ (lK σ 3 (6 * k + 4)) (lK σ 3 (6 * k)) (lK σ 3 (6 * k + 1)))
              rw [if_neg h4, if_pos ⟨h1, h2, h4⟩, loss_eq hJ hW hC hkc h2, ap_cls hJ.2.2.2.2.2.2.2.2.2.1 k1 hY3 (by omega), lN_add]
        · rw [if_neg h1, if_neg (fun z => h1 z.1)]; rfl
      simp only [fX7_costOf_L13, lseq]
      rw [e]
      exact ih (k + 1) (by omega)
  unfold fX7_costOf
  rw [h3]
  exact L n15 0 (by omega)
theorem group_sum (hJ : J t σ τ q12 n14 n15 n16 n17) (hC : CW τ) (v Y s k : Nat) : sumN (fun c => if gm σ v s k c then gN σ τ n14 n15 v Y c else 0) n15 = bN σ n14 n15 v Y s k := by
  by_cases hex : ∃ c, c < n15 ∧ gm σ v s k c
  · obtain ⟨c0, ⟨hc0, hg0⟩, hmin⟩ := pk_least (fun c => c < n15 ∧ gm σ v s k c) hex
    have hg9 := hg0
    obtain ⟨g1, g2, g3⟩ := hg0
    have hfirst : ¬ fX7_isFirstOfItsGroup τ c0 = 0 := by
      rw [first_eq hJ hC hc0, g1, g2, g3]
      rintro ⟨j, hj, hgj⟩
      exact hmin j hj ⟨by omega, hgj⟩
    rw [sumN_one (c := c0) n15 hc0 (fun j hj hne => ?_)]
    · rw [if_pos hg9]
      have same : ∀ c, c < n15 → gm σ v s k c → fL_covered σ n14 c = fL_covered σ n14 c0 := fun c hc hg => cov_same hJ hc0 hc (hg.2.1.trans g2.symm) (hg.1.trans g1.symm)
      unfold gN bN
      rw [g1, g2, g3]
      by_cases h4 : fL_covered σ n14 c0 = 0
      · rw [if_neg (fun z => z.2.2 h4), if_pos ((lHs_0 n15).mpr (fun c hc hg => (same c hc hg).trans h4))]
      · rw [if_pos ⟨rfl, hfirst, h4⟩, if_neg (fun z => h4 ((lHs_0 n15).mp z c0 hc0 hg9))]
        congr 1
        unfold lSm
        refine sumN_congr n15 (fun c hc => ?_)
        by_cases hg : gm σ v s k c
        · rw [if_pos hg, if_pos ⟨hg, fun z => h4 ((same c hc hg).symm.trans z)⟩]
        · rw [if_neg hg, if_neg (fun z => hg z.1)]
    · show (if gm σ v s k j then gN σ τ n14 n15 v Y j else 0) = 0
      by_cases hg : gm σ v s k j
      · rw [if_pos hg]
        have hlt : c0 < j := by
          have : ¬ j < c0 := fun z => hmin j z ⟨hj, hg⟩
          omega
        unfold gN
        refine if_neg (fun z => z.2.1 ?_)
        rw [first_eq hJ hC hj, hg.1, hg.2.1, hg.2.2]
        exact ⟨c0, hlt, hg9⟩
      · exact if_neg hg
  · rw [sumN_all0 n15 (fun j hj => if_neg (fun g => hex ⟨j, hj, g⟩))]
    unfold bN
    rw [if_pos ((lHs_0 n15).mpr (fun c hc hg => absurd ⟨c, hc, hg⟩ hex))]
theorem all_groups (hJ : J t σ τ q12 n14 n15 n16 n17) (hW : LW σ) (hC : CW τ) (v Y : Nat) : sumN (gN σ τ n14 n15 v Y) n15 = bT σ n14 n15 v Y := by
  have hn := hJ.1.2.2.2.2.2.2.2.2.1
  have h3 : cN τ 3 = n15 := hJ.1.2.2.2.1
  unfold bT
  have e1 : sumN (fun s => sumN (bN σ n14 n15 v Y s) 4) 5 = sumN (fun s => sumN (fun c => sumN (fun k => if gm σ v s k c then gN σ τ n14 n15 v Y c else 0) 4) n15) 5 := by
    refine sumN_congr 5 (fun s _ => ?_)
    rw [← sumN_swap (fun k c => if gm σ v s k c then gN σ τ n14 n15 v Y c else 0) n15 4]
    exact sumN_congr 4 (fun k _ => (group_sum hJ hC v Y s k).symm)
  rw [e1, sumN_swap (fun s c => sumN (fun k => if gm σ v s k c then gN σ τ n14 n15 v Y c else 0) 4) n15 5]
  refine sumN_congr n15 (fun c hc => ?_)
  by_cases hv : lK σ 3 (6 * c + 4) = v
  · have hs := hW.2.2.1 c
    have hk := hC.2.2.2.2.2.2.1 c (by omega)
    rw [(hJ.2.2.2.2.2.2.1.1 c hc).2.1] at hk
    rw [sumN_one (c := lK σ 3 (6 * c)) 5 hs (fun s _ hne => sumN_all0 4 (fun k _ => if_neg (fun g => hne g.2.1.symm)))]
    rw [sumN_one (c := lK σ 3 (6 * c + 1)) 4 hk (fun k _ hne => if_neg (fun g => hne g.2.2.symm))]
    rw [if_pos ⟨hv, rfl, rfl⟩]
  · have h0 : gN σ τ n14 n15 v Y c = 0 := if_neg (fun z => hv z.1)
    rw [h0]
    exact (sumN_all0 5 (fun s _ => sumN_all0 4 (fun k _ => if_neg (fun g => hv g.1)))).symm
theorem be_eq (hJ : J t σ τ q12 n14 n15 n16 n17) (hW : LW σ) (hC : CW τ) {v : Nat} (hv : v < n16) : fX7_borneOf τ v = fL_bears σ n14 n15 v ∧ ∃ w, w ≤ 200000000 ∧ fL_bears σ n14 n15 v = lN w := by
  obtain ⟨h1, h2⟩ := be_law hJ hv
  have h3 := bT_le hJ (v := v) h2
  have h4 := brN_le hJ h2 (bT σ n14 n15 v (cK τ 16 v / 100))
  refine ⟨?_, _, by omega, h1⟩
  unfold fX7_borneOf
  rw [h1, co_cls hJ hW hC hv rfl h2, all_groups hJ hW hC, br_cls hJ h2 (by omega)]
/-- the costs of a year -/
theorem c_eq (hJ : J t σ τ q12 n14 n15 n16 n17) (hW : LW σ) (hC : CW τ) {y : Nat} (hy : y < 3) : fX7_costIn τ (nI y) = fL_cost σ n14 n15 n16 y ∧ ∃ w, w ≤ 2000000000 ∧ fL_cost σ n14 n15 n16 y = lN w := by
  have h4 : cN τ 4 = n16 := hJ.1.2.2.2.2.1
  have hn := hJ.1.2.2.2.2.2.2.2.2.1
  have hn6 := hJ.1.2.2.2.2.2.2.2.2.2.1
  have I19 : ∀ e a n k h, e < n16 → k + n = n15 → (h = 0 ∨ h = 1) → ((h = 1 ∨ ∃ c, k ≤ c ∧ c < n15 ∧ lK σ 3 (6 * c + 4) = e ∧ lK σ 3 (6 * c + 2) / 100 = y) → fL_cost_L19 σ n14 n15 n16 y e a n k h = a + fL_bears σ n14 n15 e) ∧ (¬ (h = 1 ∨ ∃ c, k ≤ c ∧ c < n15 ∧ lK σ 3 (6 * c + 4) = e ∧ lK σ 3 (6 * c + 2) / 100 = y) → fL_cost_L19 σ n14 n15 n16 y e a n k h = a) := by
    intro e a n
    induction n with
    | zero =>
      intro k h he hk hh
      simp only [fL_cost_L19]
      refine ⟨fun z => ?_, fun z => ?_⟩
      · have h1 : h = 1 := by
          rcases z with z | ⟨c, z1, z2, -⟩
          · exact z
          · omega
        rw [if_neg (by omega)]
      · rw [if_pos]
        rcases hh with hh | hh
        · exact hh
        · exact absurd (Or.inl hh) z
    | succ n ih =>
      intro k h he hk hh
      simp only [fL_cost_L19, lseq, fL_cost_S19]
      by_cases h1 : lK σ 3 (6 * k + 4) = e ∧ lK σ 3 (6 * k + 2) / 100 = y
      · rw [if_pos h1.1, if_pos h1.2]
        refine ⟨fun _ => (ih (k + 1) 1 he (by omega) (Or.inr rfl)).1 (Or.inl rfl), fun z => absurd (Or.inr ⟨k, Nat.le_refl _, by omega, h1⟩) z⟩
      · have e9 : (if lK σ 3 (6 * k + 4) = e then (if lK σ 3 (6 * k + 2) / 100 = y then 1 else h) else h) = h := by
          by_cases q : lK σ 3 (6 * k + 4) = e
          · rw [if_pos q, if_neg (fun w => h1 ⟨q, w⟩)]
          · rw [if_neg q]
        rw [e9]
        have iff9 : (h = 1 ∨ ∃ c, k ≤ c ∧ c < n15 ∧ lK σ 3 (6 * c + 4) = e ∧ lK σ 3 (6 * c + 2) / 100 = y) ↔ (h = 1 ∨ ∃ c, k + 1 ≤ c ∧ c < n15 ∧ lK σ 3 (6 * c + 4) = e ∧ lK σ 3 (6 * c + 2) / 100 = y) := by
          refine ⟨fun z => z.elim Or.inl (fun ⟨c, q1, q2, q3⟩ => Or.inr ⟨c, ?_, q2, q3⟩), fun z => z.elim Or.inl (fun ⟨c, q1, q2, q3⟩ => Or.inr ⟨c, by omega, q2, q3⟩)⟩
          have : c ≠ k := fun w => h1 (w ▸ q3)
          omega
        rw [iff9]
        exact ih (k + 1) h he (by omega) hh
  have L : ∀ n k w, k + n = n16 → w ≤ 200000000 * k → ∃ w2, w2 ≤ 200000000 * n16 ∧ fX7_costIn_L5 τ (nI y) n k (lN w) = lN w2 ∧ fL_cost_L6 σ n14 n15 n16 y n k (lN w) = lN w2 := by
    intro n
    induction n with
    | zero =>
      intro k w hk hw
      have hk : k = n16 := by omega
      subst hk
      exact ⟨w, hw, rfl, rfl⟩
    | succ n ih =>
      intro k w hk hw
      obtain ⟨e1, w9, e2, e3⟩ := be_eq hJ hW hC (show k < n16 by omega)
      obtain ⟨v1, c0, v2, v3⟩ := hJ.2.2.2.2.2.2.2.1 k (by omega)
      obtain ⟨-, -, d3, -, d5, -⟩ := hJ.2.2.2.2.2.2.1.1 c0 v2
      have hyk : (∃ c, 0 ≤ c ∧ c < n15 ∧ lK σ 3 (6 * c + 4) = k ∧ lK σ 3 (6 * c + 2) / 100 = y) ↔ cK τ 16 k / 100 = y := by
        refine ⟨fun ⟨c, _, q2, q3, q4⟩ => ?_, fun z => ⟨c0, Nat.zero_le _, v2, by rw [← d3]; exact v3, ?_⟩⟩
        · obtain ⟨-, -, -, -, f5, -⟩ := hJ.2.2.2.2.2.2.1.1 c q2
          rw [← q3, f5]; exact q4
        · rw [← d5, ← d3, v3]; exact z
      have h16 := (be_law hJ (show k < n16 by omega)).2
      simp only [fX7_costIn_L5, fL_cost_L6, lseq, fX7_costIn_S5, fL_cost_S6]
      obtain ⟨i1, i2⟩ := I19 k (lN w) n15 0 0 (by omega) (by omega) (Or.inl rfl)
      by_cases hh : cK τ 16 k / 100 = y
      · rw [if_pos (congrArg nI hh), i1 (Or.inr (hyk.mpr hh)), e1, e3, lN_add]
        exact ih (k + 1) _ (by omega) (by omega)
      · rw [if_neg (by rw [nI_eq (by omega) (by omega)]; exact hh), i2 (fun z => z.elim (fun q => by omega) (fun q => hh (hyk.mp q)))]
        exact ih (k + 1) w (by omega) (by omega)
  obtain ⟨w2, z1, z2, z3⟩ := L n16 0 0 (by omega) (by omega)
  unfold fX7_costIn fL_cost
  rw [h4]
  refine ⟨z2.trans z3.symm, w2, ?_, z3⟩
  have := Nat.mul_le_mul_left 200000000 (show n16 ≤ 10 by omega)
  omega
end JBF
