section JA7
variable {t : Nat} {σ : LT} {τ : CT} {q12 : Int64} {n14 n15 n16 n17 : Nat}
def hasV (σ : LT) (m : Nat) : Nat → Nat
  | 0 => 0
  | n + 1 => if lK σ 1 (lK σ 0 (3 * n)) = m then (if lK σ 0 (3 * n + 2) = 9999 then 1 else hasV σ m n) else hasV σ m n
theorem hasV_01 (σ : LT) (m : Nat) : ∀ n, hasV σ m n = 0 ∨ hasV σ m n = 1
  | 0 => Or.inl rfl
  | n + 1 => by
    show (if lK σ 1 (lK σ 0 (3 * n)) = m then (if lK σ 0 (3 * n + 2) = 9999 then 1 else hasV σ m n) else hasV σ m n) = 0 ∨ (if lK σ 1 (lK σ 0 (3 * n)) = m then (if lK σ 0 (3 * n + 2) = 9999 then 1 else hasV σ m n) else hasV σ m n) = 1
    repeat' split
    all_goals first | exact Or.inr rfl | exact hasV_01 σ m n
theorem hasV_0 (σ : LT) (m : Nat) : ∀ n, hasV σ m n = 0 ↔ ∀ e, e < n → lK σ 1 (lK σ 0 (3 * e)) = m → lK σ 0 (3 * e + 2) ≠ 9999
  | 0 => ⟨fun _ e h => by omega, fun _ => rfl⟩
  | n + 1 => by
    show (if lK σ 1 (lK σ 0 (3 * n)) = m then (if lK σ 0 (3 * n + 2) = 9999 then 1 else hasV σ m n) else hasV σ m n) = 0 ↔ _
    by_cases h : lK σ 1 (lK σ 0 (3 * n)) = m ∧ lK σ 0 (3 * n + 2) = 9999
    · rw [if_pos h.1, if_pos h.2]
      exact ⟨fun z => by omega, fun z => absurd h.2 (z n (by omega) h.1)⟩
    · have e9 : (if lK σ 1 (lK σ 0 (3 * n)) = m then (if lK σ 0 (3 * n + 2) = 9999 then 1 else hasV σ m n) else hasV σ m n) = hasV σ m n := by
        by_cases q : lK σ 1 (lK σ 0 (3 * n)) = m
        · rw [if_pos q, if_neg (fun w => h ⟨q, w⟩)]
        · rw [if_neg q]
      rw [e9, hasV_0 σ m n]
      refine ⟨fun z e he h1 => ?_, fun z e he => z e (by omega)⟩
      by_cases hn : e = n
      · subst hn; exact fun w => h ⟨h1, w⟩
      · exact z e (by omega) h1
theorem has_eq (hJ : J t σ τ q12 n14 n15 n16 n17) (hW : LW σ) (m : Nat) : fX7_hasShipEntered τ m = 0 ↔ hasV σ m n14 = 0 := by
  obtain ⟨⟨a0, a1, a2, a3, a4, a5, a6, b1, b2, b3, b4, b5⟩, hM, hP, hS, hE, hO, hJC, hV, hJW, hU, hY, hB⟩ := id hJ
  have L : ∀ n k, k + n = 5 → (fX7_hasShipEntered_L2 τ m n k = 0 ↔ ∀ s, k ≤ s → s < 5 → cK τ 10 s = m → cK τ 14 s = 0) := by
    intro n
    induction n with
    | zero => intro k hk; exact ⟨fun _ s h1 h2 => by omega, fun _ => rfl⟩
    | succ n ih =>
      intro k hk
      simp only [fX7_hasShipEntered_L2, fX7_hasShipEntered_S2]
      by_cases h1 : cK τ 10 k = m
      · rw [if_pos h1]
        by_cases h2 : cK τ 14 k = 0
        · rw [if_pos h2, lb_inl, ih (k + 1) (by omega)]
          refine ⟨fun z s q1 q2 q3 => ?_, fun z s q1 q2 q3 => z s (by omega) q2 q3⟩
          by_cases hs : s = k
          · rw [hs]; exact h2
          · exact z s (by omega) q2 q3
        · rw [if_neg h2, lb_inr]
          exact ⟨fun z => absurd z n10, fun z => absurd (z k (Nat.le_refl _) (by omega) h1) h2⟩
      · rw [if_neg h1, lb_inl, ih (k + 1) (by omega)]
        refine ⟨fun z s q1 q2 q3 => ?_, fun z s q1 q2 q3 => z s (by omega) q2 q3⟩
        have : s ≠ k := fun w => h1 (w ▸ q3)
        exact z s (by omega) q2 q3
  unfold fX7_hasShipEntered
  rw [a1, L 5 0 (by omega), hasV_0]
  refine ⟨fun z e he h1 h2 => ?_, fun z s _ hs h1 => ?_⟩
  · have hs := hW.1 e
    have h0 := z _ (Nat.zero_le _) hs (by rw [(hS _ hs).1]; exact h1)
    exact (hO _ hs).1 h0 e he rfl h2
  · by_cases h0 : cK τ 14 s = 0
    · exact h0
    · obtain ⟨y0, y1, y2, y3⟩ := (hO s hs).2 h0
      exact absurd y2 (z _ (by omega) (by rw [y1, ← (hS s hs).1]; exact h1))
/-- one year's release -/
theorem rel_J (hJ : J t σ τ q12 n14 n15 n16 n17) (hW : LW σ) {m y r : Nat} (hm : m < 3) (hy : y < 3) (ho : lF σ ≤ y) (h0 : lI σ 7 (3 * m + y) = 0) (hr : r ≤ 200) :
    J t (lSI (lSL σ 8 (3 * m + y) (fL_due σ n14 m y + ((fL_weight σ n14 m y * lN (lK σ 6 y)) / (1000 : Int64) * lN r) / (100 : Int64))) 7 (3 * m + y) (nI 1)) (fX7_releaseFrom τ m y (nI r)) q12 n14 n15 n16 n17 := by
  obtain ⟨⟨a0, a1, a2, a3, a4, a5, a6, b1, b2, b3, b4, b5⟩, hM, hP, hS, hE, hO, hJC, hV, hJW, hU, hY, hB⟩ := id hJ
  have hd := d_eq hJ hW hm hy
  obtain ⟨v, v1, v2, u, u1, u2⟩ := base_b hJ hW hm hy
  have hadv : fX7_advanceOf τ m y = (fL_weight σ n14 m y * lN (lK σ 6 y)) / (1000 : Int64) := by
    unfold fX7_advanceOf
    rw [(w_eq hJ hW hm hy).1, (hY.1 y hy).1, nI_l (by have := (hY.1 y hy).2.1; omega)]
  have hdue : fL_due σ n14 m y = lN u := by
    unfold fL_due
    rw [h0, if_pos (by decide), if_pos ho, u2]
  have hDu : (fL_weight σ n14 m y * lN (lK σ 6 y)) / (1000 : Int64) * lN r / (100 : Int64) = lN (v * r / 100) := by
    have := Nat.mul_le_mul v1 hr
    rw [v2, lN_mul, show (100 : Int64) = lN 100 from rfl, pk_lDiv (by omega) (by decide) (by decide)]
  unfold fX7_releaseFrom
  rw [hd, hadv, nI_l (by omega)]
  generalize hD : fL_due σ n14 m y + (fL_weight σ n14 m y * lN (lK σ 6 y)) / (1000 : Int64) * lN r / (100 : Int64) = D
  have hDb : -1000000000 ≤ D.toInt ∧ D.toInt ≤ 1000000000 := by
    have := Nat.mul_le_mul v1 hr
    rw [← hD, hDu, hdue, lN_add, lN_toInt (by omega)]; omega
  have hF := f7_ne (lSL σ 8 (3 * m + y) D) (3 * m + y) (nI 1) (by omega)
  refine ⟨JN.of (σ := σ) ⟨a0, a1, a2, a3, a4, a5, a6, b1, b2, b3, b4, b5⟩ hF, ?_, ?_, hS, hE, hO, hJC, hV, hJW.of hF (fun _ _ => rfl), hU, JY.of (σ := σ) hY hF (fun _ _ => rfl) (fun _ => rfl), ?_, hB.2⟩
  · intro m1 hm1
    obtain ⟨g1, g2⟩ := hM m1 hm1
    refine ⟨fun y1 hy1 => ?_, fun y1 h3 hy1 => ?_⟩
    · obtain ⟨k1, k2, k3, k4⟩ := g1 y1 hy1
      refine ⟨k1, k2, k3, ?_⟩
      show (((if 7 = 7 ∧ 3 * m1 + y1 = 3 * m + y then nI 1 else lI σ 7 (3 * m1 + y1)) = 0 ∧ (if 1 = 1 ∧ m1 = m ∧ y1 = y then nI 1 else cM τ 1 m1 y1) = 0 ∧ (if m1 = m ∧ y1 = y then D else cD τ m1 y1) = 0) ∨ ((if 7 = 7 ∧ 3 * m1 + y1 = 3 * m + y then nI 1 else lI σ 7 (3 * m1 + y1)) = 1 ∧ (if 1 = 1 ∧ m1 = m ∧ y1 = y then nI 1 else cM τ 1 m1 y1) = 1 ∧ (if m1 = m ∧ y1 = y then D else cD τ m1 y1) = (if 8 = 8 ∧ 3 * m1 + y1 = 3 * m + y then D else lL σ 8 (3 * m1 + y1))) ∨ ((if 7 = 7 ∧ 3 * m1 + y1 = 3 * m + y then nI 1 else lI σ 7 (3 * m1 + y1)) = 2 ∧ (if 1 = 1 ∧ m1 = m ∧ y1 = y then nI 1 else cM τ 1 m1 y1) = 0 ∧ (if m1 = m ∧ y1 = y then D else cD τ m1 y1) = (if 8 = 8 ∧ 3 * m1 + y1 = 3 * m + y then D else lL σ 8 (3 * m1 + y1)) ∧ y1 < lF (lSI (lSL σ 8 (3 * m + y) D) 7 (3 * m + y) (nI 1))))
      rw [hF]
      by_cases h9 : m1 = m ∧ y1 = y
      · have h8 : 3 * m1 + y1 = 3 * m + y := by omega
        rw [if_pos ⟨rfl, h8⟩, if_pos ⟨rfl, h9⟩, if_pos h9, if_pos ⟨rfl, h8⟩]
        exact Or.inr (Or.inl ⟨rfl, rfl, rfl⟩)
      · have h8 : ¬ (3 * m1 + y1 = 3 * m + y) := by omega
        rw [if_neg (fun z => h8 z.2), if_neg (fun z => h9 z.2), if_neg h9, if_neg (fun z => h8 z.2)]
        exact k4
    · obtain ⟨k1, k2, k3⟩ := g2 y1 h3 hy1
      refine ⟨k1, ?_, ?_⟩
      · show (if 1 = 1 ∧ m1 = m ∧ y1 = y then nI 1 else cM τ 1 m1 y1) = 0
        rw [if_neg (by omega)]; exact k2
      · show (if m1 = m ∧ y1 = y then D else cD τ m1 y1) = 0
        rw [if_neg (by omega)]; exact k3
  · intro m1 hm1
    obtain ⟨g1, g2, g3⟩ := hP m1 hm1
    have e1 : lI (lSI (lSL σ 8 (3 * m + y) D) 7 (3 * m + y) (nI 1)) 7 (9 + m1) = lI σ 7 (9 + m1) := by rw [lSI_I, if_neg (by omega), lSL_I]
    rw [e1]
    exact ⟨g1, g2, g3⟩
  · intro i hi
    rw [hF]
    show -20000000000 ≤ (if 8 = 8 ∧ i = 3 * m + y then D else lL σ 8 i).toInt ∧ (if 8 = 8 ∧ i = 3 * m + y then D else lL σ 8 i).toInt ≤ 20000000000 ∧ (lF σ ≤ i % 3 → -1000000000 ≤ (if 8 = 8 ∧ i = 3 * m + y then D else lL σ 8 i).toInt ∧ (if 8 = 8 ∧ i = 3 * m + y then D else lL σ 8 i).toInt ≤ 1000000000)
    by_cases h9 : i = 3 * m + y
    · rw [if_pos ⟨rfl, h9⟩]; exact ⟨by omega, by omega, fun _ => hDb⟩
    · rw [if_neg (fun z => h9 z.2)]; exact hB.1 i hi
theorem rel_step (τ0 : CT) (a b : Int32) (m n k : Nat) (c : Int32) (τk : CT) : fX7_release_L39 τ0 a b m (n + 1) k c τk = fX7_release_L39 τ0 a b m n (k + 1) (if fX7_isShared τk m k = 0 then c else if cI τk 33 k = 0 then c + 1 else c) (if fX7_isShared τk m k = 0 then τk else if cI τk 33 k = 0 then fX7_releaseFrom τk m k (nI (tn b)) else τk) := rfl
theorem rel_skip (τ0 : CT) (a b : Int32) (m : Nat) (c : Int32) (τk : CT) : ∀ n k N, (∀ y, k ≤ y → y < k + n → fX7_isShared τk m y = 0 ∨ ¬ cI τk 33 y = 0) → fX7_release_L39 τ0 a b m (n + N) k c τk = fX7_release_L39 τ0 a b m N (k + n) c τk := by
  intro n
  induction n with
  | zero => intro k N _; rw [Nat.zero_add, Nat.add_zero]
  | succ n ih =>
    intro k N h
    rw [show n + 1 + N = (n + N) + 1 by omega, rel_step]
    have e1 : (if fX7_isShared τk m k = 0 then c else if cI τk 33 k = 0 then c + 1 else c) = c := by
      rcases h k (Nat.le_refl _) (by omega) with h | h
      · rw [if_pos h]
      · repeat' split
        all_goals first | rfl | contradiction
    have e2 : (if fX7_isShared τk m k = 0 then τk else if cI τk 33 k = 0 then fX7_releaseFrom τk m k (nI (tn b)) else τk) = τk := by
      rcases h k (Nat.le_refl _) (by omega) with h | h
      · rw [if_pos h]
      · repeat' split
        all_goals first | rfl | contradiction
    rw [e1, e2, ih (k + 1) N (fun y h1 h2 => h y (by omega) (by omega)), show k + 1 + n = k + (n + 1) by omega]
theorem lN_le0 {w : Nat} (hw : w < 2 ^ 31) : lN w ≤ (0 : Int64) ↔ w = 0 := by
  rw [lN_0, lN_le hw (by decide)]; omega
theorem lN_eq0 {w : Nat} (hw : w < 2 ^ 31) : lN w = (0 : Int64) ↔ w = 0 := by
  rw [lN_0, lN_eq hw (by decide)]
theorem rel_loop {σ0 : LT} (τ0 : CT) (a y : Int32) {m r : Nat} (hm : m < 3) (hr : r ≤ 200) (hlow : lowN (y >>> ((nI 2) &&& 31)) 201 = r) : ∀ n k c (σ : LT) (τ : CT), k + n = 3 → c ≤ k → lF σ ≤ k → J t σ τ q12 n14 n15 n16 n17 → LW σ → (∀ y, k ≤ y → y < 3 → lI σ 7 (3 * m + y) = lI σ0 7 (3 * m + y)) → (∀ a b, lK σ a b = lK σ0 a b) →
    ∃ c1 σ1 τ1, c1 ≤ 3 ∧ fX7_release_L39 τ0 a (nI r) m (n + 17) k (nI c) τ = fX7_release_L39 τ0 a (nI r) m 17 3 (nI c1) τ1 ∧ (∀ X : Int32 × CT, fS1595_L1750 σ0 τ0 q12 n14 n15 n16 n17 m y 0 X n k σ = some (σ1, X.2, q12, n14, n15, n16, n17)) ∧ fS1595_L1654 σ0 τ0 q12 n14 n15 n16 n17 m y 0 n k c = fS1595_L1654 σ0 τ0 q12 n14 n15 n16 n17 m y 0 0 3 c1 ∧ J t σ1 τ1 q12 n14 n15 n16 n17 ∧ LW σ1 ∧ (∀ a b, lK σ1 a b = lK σ0 a b) ∧ c ≤ c1 ∧ (c1 = c → σ1 = σ ∧ τ1 = τ) := by
  intro n
  induction n with
  | zero =>
    intro k c σ τ hk hc hF hJ hW hf hK
    have hk : k = 3 := by omega
    subst hk
    exact ⟨c, σ, τ, hc, rfl, fun X => rfl, rfl, hJ, hW, hK, Nat.le_refl _, fun _ => ⟨rfl, rfl⟩⟩
  | succ n ih =>
    intro k c σ τ hk hc hF hJ hW hf hK
    have hk3 : k < 3 := by omega
    obtain ⟨-, -, -, hfl⟩ := (hJ.2.1 m hm).1 k hk3
    obtain ⟨hwe, w, w1, w2⟩ := w_eq hJ hW hm hk3
    have hw0 : fL_weight σ0 n14 m k = lN w := by rw [← w_congr hK]; exact w2
    have h33 : cI τ 33 k = 0 := (hJ.2.2.2.2.2.2.2.2.2.2.1.1 k hk3).2.2.2.2.1.mpr hF
    rw [show n + 1 + 17 = (n + 17) + 1 by omega, rel_step]
    have e17 : ∀ X : Int32 × CT, fS1595_L1750 σ0 τ0 q12 n14 n15 n16 n17 m y 0 X (n + 1) k σ = fS1595_L1750 σ0 τ0 q12 n14 n15 n16 n17 m y 0 X n (k + 1) (if 0 < lI σ 7 (3 * m + k) then σ else if fL_weight σ n14 m k = 0 then σ else lSI (lSL σ 8 (3 * m + k) (fL_due σ n14 m k + (((fL_weight σ n14 m k * lN (lK σ 6 k)) / (1000 : Int64)) * lN (lowN (y >>> ((nI 2) &&& 31)) 201)) / (100 : Int64))) 7 (3 * m + k) (nI 1)) := fun X => rfl
    have e16 : fS1595_L1654 σ0 τ0 q12 n14 n15 n16 n17 m y 0 (n + 1) k c = fS1595_L1654 σ0 τ0 q12 n14 n15 n16 n17 m y 0 n (k + 1) (if lI σ0 7 (3 * m + k) = 0 then (if fL_weight σ0 n14 m k ≤ 0 then c else c + 1) else c) := rfl
    rw [e16, ← hf k (Nat.le_refl _) hk3, hw0]
    simp only [e17]
    unfold fX7_isShared
    rw [hwe, w2, h33, hlow]
    rcases hfl with ⟨f1, f2, -⟩ | ⟨f1, f2, -⟩ | ⟨-, -, -, f4⟩
    · rw [f1, f2]
      by_cases h0 : w = 0
      · have z1 : lN w ≤ (0 : Int64) := (lN_le0 (by omega)).mpr h0
        have z2 : lN w = (0 : Int64) := (lN_eq0 (by omega)).mpr h0
        simp only [if_pos z1, if_pos z2, if_pos (show (0 : Int32) = 0 from rfl), if_pos n00, if_neg (show ¬ (0 : Int32) < 0 by decide)]
        exact ih (k + 1) c σ τ (by omega) (by omega) (by omega) hJ hW (fun y h1 h2 => hf y (by omega) h2) hK
      · have z1 : ¬ lN w ≤ (0 : Int64) := fun z => h0 ((lN_le0 (by omega)).mp z)
        have z2 : ¬ lN w = (0 : Int64) := fun z => h0 ((lN_eq0 (by omega)).mp z)
        simp only [if_neg z1, if_neg z2, if_pos (show (0 : Int32) = 0 from rfl), if_neg n10, if_neg (show ¬ (0 : Int32) < 0 by decide)]
        rw [nI_1, tn_nI (by omega)]
        have hJ1 := rel_J hJ hW hm hk3 hF f1 hr
        rw [w2] at hJ1
        have G : lF (lSI (lSL σ 8 (3 * m + k) (fL_due σ n14 m k + ((lN w * lN (lK σ 6 k)) / (1000 : Int64) * lN r) / (100 : Int64))) 7 (3 * m + k) (nI 1)) ≤ k + 1 := by
          rw [f7_ne _ _ _ (by omega)]
          show lF σ ≤ k + 1
          omega
        have G2 : ∀ y, k + 1 ≤ y → y < 3 → lI (lSI (lSL σ 8 (3 * m + k) (fL_due σ n14 m k + ((lN w * lN (lK σ 6 k)) / (1000 : Int64) * lN r) / (100 : Int64))) 7 (3 * m + k) (nI 1)) 7 (3 * m + y) = lI σ0 7 (3 * m + y) := by
          intro y h1 h2
          rw [lSI_I, if_neg (by omega), lSL_I]; exact hf y (by omega) h2
        obtain ⟨c1, σ1, τ1, p1, p2, p3, p4, p5, p6, p7, p8, p9⟩ := ih (k + 1) (c + 1) _ _ (by omega) (by omega) G hJ1 ((hW.sL 8 _ _).sI 7 _ _ (by omega)) G2 (fun a b => hK a b)
        exact ⟨c1, σ1, τ1, p1, p2, p3, p4, p5, p6, p7, by omega, fun z => by omega⟩
    · rw [f1, f2]
      simp only [if_neg (show ¬ (1 : Int32) = 0 by decide), if_pos n00, if_pos (show (0 : Int32) < 1 by decide)]
      exact ih (k + 1) c σ τ (by omega) (by omega) (by omega) hJ hW (fun y h1 h2 => hf y (by omega) h2) hK
    · omega
theorem a_release (hJ : J t σ τ q12 n14 n15 n16 n17) (hW : LW σ) (y : Int32) {m : Nat} (hm : m < 3) : Aok (t + 1) (fS1595 σ τ q12 n14 n15 n16 n17 m y) := by
  obtain ⟨⟨a0, a1, a2, a3, a4, a5, a6, b1, b2, b3, b4, b5⟩, hM, hP, hS, hE, hO, hJC, hV, hJW, hU, hY, hB⟩ := id hJ
  have hrl := lowN_lt (y >>> ((nI 2) &&& 31)) (n := 201) (by decide)
  have hF3 := hW.2.2.2.2.1.2
  have L : ∀ n k, k + n = n14 → fS1595_L1601 σ τ q12 n14 n15 n16 n17 m y n k (hasV σ m k) = fS1595_L1654 σ τ q12 n14 n15 n16 n17 m y (hasV σ m n14) (3 - lF σ) (lF σ) 0 := by
    intro n
    induction n with
    | zero => intro k hk; have hk : k = n14 := by omega
              rw [hk]; rfl
    | succ n ih =>
      intro k hk
      have := ih (k + 1) (by omega)
      exact this
  unfold fS1595
  rw [show (0 : Nat) = hasV σ m 0 from rfl, show fS1595_L1601 σ τ q12 n14 n15 n16 n17 m y n14 (hasV σ m 0) (hasV σ m 0) = fS1595_L1601 σ τ q12 n14 n15 n16 n17 m y n14 0 (hasV σ m 0) from rfl, L n14 0 (by omega)]
  have hrel : fX7_release τ (nI m) (nI (lowN (y >>> ((nI 2) &&& 31)) 201)) = if fX7_hasShipEntered τ m = 0 then fX7_release_L39 τ (nI m) (nI (lowN (y >>> ((nI 2) &&& 31)) 201)) m 20 0 (nI 0) τ else .inl "java/lang/IllegalStateException" := by
    unfold fX7_release
    rw [p_member (by rw [a0]; exact hm) (by rw [a0]; decide), xb_inr, p_in (lowN (y >>> ((nI 2) &&& 31)) 201) rfl (by omega) (by omega) (by decide), xb_inr]
  have hhe := has_eq hJ hW m
  rcases hasV_01 σ m n14 with h0 | h1
  · rw [h0]
    rw [if_pos (hhe.mpr h0)] at hrel
    generalize hlow : lowN (y >>> ((nI 2) &&& 31)) 201 = r at hrl hrel
    obtain ⟨c1, σ1, τ1, q1, q2, q3, q4, q5, q6, q7, q8, q9⟩ := rel_loop (σ0 := σ) τ (nI m) y hm (show r ≤ 200 by omega) hlow (3 - lF σ) (lF σ) 0 σ τ (by omega) (Nat.zero_le _) (Nat.le_refl _) hJ hW (fun _ _ _ => rfl) (fun _ _ => rfl)
    rw [q4]
    simp only [fS1595_L1654]
    rw [hlow]
    have s1 : fX7_release_L39 τ (nI m) (nI r) m 20 0 (nI 0) τ = fX7_release_L39 τ (nI m) (nI r) m (3 - lF σ + 17) (lF σ) (nI 0) τ := by
      have := rel_skip τ (nI m) (nI r) m (nI 0) τ (lF σ) 0 (3 - lF σ + 17) (fun y1 h1 h2 => Or.inr (fun z => by
        have := (hY.1 y1 (by omega)).2.2.2.2.1.mp z
        omega))
      rw [show lF σ + (3 - lF σ + 17) = 20 by omega, Nat.zero_add] at this
      exact this
    have s2 : fX7_release_L39 τ (nI m) (nI r) m 17 3 (nI c1) τ1 = fX7_release_L39 τ (nI m) (nI r) m 0 20 (nI c1) τ1 := by
      have := rel_skip τ (nI m) (nI r) m (nI c1) τ1 17 3 0 (fun y1 h1 h2 => Or.inl ?_)
      · exact this
      · obtain ⟨k1, k2, k3⟩ := (q5.2.1 m hm).2 y1 h1 (by omega)
        have hcw : cW σ1 n14 m y1 = 0 := by
          refine sumN_all0 n14 (fun e he => ?_)
          unfold cT
          split
          · rename_i howner
            have hne := (hasV_0 σ m n14).mp h0 e he (by rw [q7, q7] at howner; exact howner)
            obtain ⟨g1, g2, g3, g4⟩ := hE e he
            have hu : lK σ1 0 (3 * e + 2) ≤ n17 := by
              rw [q7]
              rcases g4 with ⟨g4, -⟩ | ⟨g4, -⟩
              · exact absurd g4 hne
              · exact g4
            rw [show min (100 * y1 + 100) (lK σ1 0 (3 * e + 2)) - max (lK σ1 0 (3 * e + 1)) (100 * y1) = 0 by omega, Nat.mul_zero]
          · rfl
        unfold fX7_isShared
        rw [k2, if_pos rfl, w_cls q6 q5.1.2.2.1 b1 b4 q5.2.2.2.1 q5.2.2.2.2.1 (by omega) k1 (by decide), hcw, if_pos ((lN_le0 (by decide)).mpr (by decide))]
        rfl
    rw [s1, q2, s2] at hrel
    simp only [fX7_release_L39] at hrel
    unfold fL_tried0
    rw [hrel, if_pos trivial]
    by_cases hc : c1 = 0
    · rw [if_pos (show nI c1 = 0 by rw [hc]; rfl), tr_no, lc_inr]
      unfold fS1595_B1738
      rw [if_pos hc, if_pos rfl, q3]
      obtain ⟨z1, z2⟩ := q9 hc
      rw [z1]
      exact Aok.same hJ rfl
    · rw [if_neg (show ¬ nI c1 = 0 from fun z => hc ((nI_eq (b := 0) (by omega) (by decide)).mp z)), tr_ok, lc_inr]
      unfold fS1595_B1738
      rw [if_neg hc, if_pos rfl, q3]
      exact ⟨_, _, _, _, _, _, _, rfl, q5.up⟩
  · rw [h1]
    rw [if_neg (fun z => by have := hhe.mp z; omega)] at hrel
    have L2 : ∀ n k c, fS1595_L1654 σ τ q12 n14 n15 n16 n17 m y 1 n k c = lcall none (fL_tried0 τ (nI m) (nI (lowN (y >>> ((nI 2) &&& 31)) 201))) (fun x => fS1595_B1738 σ τ q12 n14 n15 n16 n17 m y 1 x (-9)) := by
      intro n
      induction n with
      | zero => intro k c; rfl
      | succ n ih => intro k c; exact ih _ _
    rw [L2]
    unfold fL_tried0
    rw [hrel, tr_no, lc_inr]
    unfold fS1595_B1738
    rw [if_pos rfl]
    have L3 : ∀ n k, fS1595_L1750 σ τ q12 n14 n15 n16 n17 m y 1 (-9, τ) n k σ = some (σ, τ, q12, n14, n15, n16, n17) := by
      intro n
      cases n with
      | zero => intro k; rfl
      | succ n => intro k; rfl
    rw [L3]
    exact Aok.same hJ rfl
end JA7
