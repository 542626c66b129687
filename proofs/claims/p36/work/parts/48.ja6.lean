section JA6
variable {t : Nat} {σ : LT} {τ : CT} {q12 : Int64} {n14 n15 n16 n17 : Nat}
theorem w_congr {σ σ1 : LT} (h : ∀ a b, lK σ1 a b = lK σ a b) (n14 m y : Nat) : fL_weight σ1 n14 m y = fL_weight σ n14 m y := by
  have S : ∀ d k a, fL_weight_S26 σ1 n14 m y d k a = fL_weight_S26 σ n14 m y d k a := by
    intro d k a
    unfold fL_weight_S26
    rw [h, h, h, h, h]
  have L : ∀ d n k a, fL_weight_L26 σ1 n14 m y d n k a = fL_weight_L26 σ n14 m y d n k a := by
    intro d n
    induction n with
    | zero => intro k a; rfl
    | succ n ih => intro k a; simp only [fL_weight_L26, lseq]; rw [S, ih]
  have M : ∀ n d a, fL_weight_L10 σ1 n14 m y n d a = fL_weight_L10 σ n14 m y n d a := by
    intro n
    induction n with
    | zero => intro d a; simp only [fL_weight_L10]; rw [h]
    | succ n ih => intro d a; simp only [fL_weight_L10, lseq, fL_weight_S10]; rw [L, ih]
  exact M _ _ _
theorem JN.of {σ1 : LT} (h : JN σ τ q12 n14 n15 n16 n17) (hF : lF σ1 = lF σ) : JN σ1 τ q12 n14 n15 n16 n17 := by
  unfold JN at h ⊢; rw [hF]; exact h
theorem JW.of {σ1 : LT} (h : JW σ n15) (hF : lF σ1 = lF σ) (hK : ∀ a b, lK σ1 a b = lK σ a b) : JW σ1 n15 := by
  refine ⟨fun c hc h9 => ?_, fun c hc h9 c1 hc1 h7 h8 => ?_⟩
  · rw [hF, hK] at h9; rw [hK]; exact h.1 c hc h9
  · rw [hF, hK] at h9; rw [hK, hK] at h7 h8; rw [hK, hK]; exact h.2 c hc h9 c1 hc1 h7 h8
theorem JY.of {σ1 : LT} (h : JY σ τ) (hF : lF σ1 = lF σ) (hK : ∀ a b, lK σ1 a b = lK σ a b) (h5 : ∀ j, lI σ1 5 j = lI σ 5 j) : JY σ1 τ := by
  refine ⟨fun y hy => ?_, h.2⟩
  have := h.1 y hy
  rw [hF, hK, hK, h5, h5, h5]; exact this
theorem f7_ne (σ : LT) (j : Nat) (v : Int32) (hj : j ≠ 12) : lF (lSI σ 7 j v) = lF σ := by unfold lF; rw [lSI_I, if_neg (fun z => hj z.2.symm)]
theorem l_arc (a b c : Int64) : a + b + c = a + c + b := by rw [Int64.add_assoc, Int64.add_comm b c, ← Int64.add_assoc]
theorem lE_add {a b : Int64} {A B : Int} (ha : a.toInt = A) (hb : b.toInt = B) (h1 : -4000000000000000000 ≤ A + B) (h2 : A + B ≤ 4000000000000000000) : (a + b).toInt = A + B := by
  rw [Int64.toInt_add, ha, hb]
  exact Int.bmod_eq_of_le (by omega) (by omega)
theorem lE_sub {a b : Int64} {A B : Int} (ha : a.toInt = A) (hb : b.toInt = B) (h1 : -4000000000000000000 ≤ A - B) (h2 : A - B ≤ 4000000000000000000) : (a - b).toInt = A - B := by
  rw [Int64.toInt_sub, ha, hb]
  exact Int.bmod_eq_of_le (by omega) (by omega)
theorem lE_neg {a : Int64} {A : Int} (ha : a.toInt = A) (h1 : -4000000000000000000 ≤ A) (h2 : A ≤ 4000000000000000000) : (-a).toInt = -A := by
  rw [Int64.toInt_neg, ha]
  exact Int.bmod_eq_of_le (by omega) (by omega)
/-- what is due while the year is open and the member isn't released -/
theorem base_b (hJ : J t σ τ q12 n14 n15 n16 n17) (hW : LW σ) {m y : Nat} (hm : m < 3) (hy : y < 3) : ∃ v, v ≤ 53946000 ∧ (fL_weight σ n14 m y * lN (lK σ 6 y)) / (1000 : Int64) = lN v ∧ ∃ u, u ≤ 593406000 ∧ (fL_weight σ n14 m y * lN (lK σ 6 y)) / (1000 : Int64) + ((fL_weight σ n14 m y * lN (lK σ 6 y)) / (1000 : Int64) * lN (lK σ 6 (3 + y))) / (100 : Int64) = lN u := by
  obtain ⟨-, w, w1, w2⟩ := w_eq hJ hW hm hy
  obtain ⟨-, y2, -, y4, -⟩ := hJ.2.2.2.2.2.2.2.2.2.2.1.1 y hy
  have h1 := Nat.mul_le_mul w1 y2
  have e1 : (fL_weight σ n14 m y * lN (lK σ 6 y)) / (1000 : Int64) = lN (w * lK σ 6 y / 1000) := by
    rw [w2, lN_mul]
    exact pk_lDiv (b := 1000) (by omega) (by decide) (by decide)
  have h2 : w * lK σ 6 y / 1000 ≤ 53946000 := by omega
  have h3 := Nat.mul_le_mul h2 y4
  refine ⟨_, h2, e1, _, ?_, by rw [e1, lN_mul, show (100 : Int64) = lN 100 from rfl, pk_lDiv (by omega) (by decide) (by decide), lN_add]⟩
  omega
theorem due_b (hJ : J t σ τ q12 n14 n15 n16 n17) (hW : LW σ) {m y : Nat} (hm : m < 3) (hy : y < 3) : -20000000000 ≤ (fL_due σ n14 m y).toInt ∧ (fL_due σ n14 m y).toInt ≤ 20000000000 := by
  obtain ⟨-, -, -, u, u1, u2⟩ := base_b hJ hW hm hy
  unfold fL_due
  split
  · split
    · rw [u2, lN_toInt (by omega)]; omega
    · show (-20000000000 : Int) ≤ 0 ∧ (0 : Int) ≤ 20000000000; omega
  · have := hJ.2.2.2.2.2.2.2.2.2.2.2.1 (3 * m + y) (by omega)
    exact ⟨this.1, this.2.1⟩
theorem owes_b (hJ : J t σ τ q12 n14 n15 n16 n17) (hW : LW σ) (ht : t ≤ 44) {m : Nat} (hm : m < 3) : -1000000000000 ≤ (lOwes σ n14 m).toInt ∧ (lOwes σ n14 m).toInt ≤ 1000000000000 := by
  obtain ⟨p1, p2⟩ := hJ.2.2.2.2.2.2.2.2.2.2.2.2 m hm
  obtain ⟨a1, a2⟩ := due_b hJ hW hm (show 0 < 3 by decide)
  obtain ⟨b1, b2⟩ := due_b hJ hW hm (show 1 < 3 by decide)
  obtain ⟨c1, c2⟩ := due_b hJ hW hm (show 2 < 3 by decide)
  have e0 := lE_neg (a := lL σ 9 m) rfl (by omega) (by omega)
  have e1 := lE_add e0 (b := fL_due σ n14 m 0) rfl (by omega) (by omega)
  have e2 := lE_add e1 (b := fL_due σ n14 m 1) rfl (by omega) (by omega)
  have e3 := lE_add e2 (b := fL_due σ n14 m 2) rfl (by omega) (by omega)
  unfold lOwes
  rw [e3]
  omega
theorem a_stop (hJ : J t σ τ q12 n14 n15 n16 n17) (hW : LW σ) (y : Int32) {m : Nat} (hm : m < 3) : Aok (t + 1) (fS1887 σ τ q12 n14 n15 n16 n17 m y (lOwes σ n14 m)) := by
  obtain ⟨⟨a0, a1, a2, a3, a4, a5, a6, b1, b2, b3, b4, b5⟩, hM, hP, hS, hE, hO, hJC, hV, hJW, hU, hY, hB⟩ := id hJ
  have hd := lowN_lt (y >>> ((nI 2) &&& 31)) (n := n17 + 1) (by omega)
  unfold fS1887
  generalize hdd : lowN (y >>> ((nI 2) &&& 31)) (n17 + 1) = d at hd
  unfold fL_tried1 fX7_stop
  rw [p_member (by rw [a0]; exact hm) (by rw [a0]; decide), xb_inr, a5, p_in d rfl (by omega) (by omega) (by omega), xb_inr, o_eq hJ hW hm, tn_nI (by omega)]
  by_cases h : lOwes σ n14 m ≤ 0
  · have h2 : ¬ (0 : Int64) < lOwes σ n14 m := by rw [Int64.lt_iff_toInt_lt]; rw [Int64.le_iff_toInt_le] at h; omega
    rw [if_neg h2, if_pos h, tr_no, lc_inr]
    unfold fS1887_B1929
    rw [if_pos rfl, if_pos h]
    exact Aok.same hJ rfl
  · have h2 : (0 : Int64) < lOwes σ n14 m := by rw [Int64.lt_iff_toInt_lt]; rw [Int64.le_iff_toInt_le] at h; omega
    rw [if_pos h2, if_neg h, tr_ok, lc_inr]
    unfold fS1887_B1929
    rw [if_pos (hP m hm).2.1, if_neg h, hdd]
    have hF := f7_ne σ (9 + m) (nI d) (by omega)
    refine ⟨_, _, _, _, _, _, _, rfl, JN.of (σ := σ) ⟨a0, a1, a2, a3, a4, a5, a6, b1, b2, b3, b4, b5⟩ hF, ?_, ?_, hS, hE, hO, hJC, hV, hJW.of hF (fun _ _ => rfl), hU, JY.of (τ := cSI τ 20 m (nI d)) hY hF (fun _ _ => rfl) (fun _ => rfl), JB.of (σ := σ) hB hF (fun _ => rfl) (fun _ => rfl)⟩
    · intro m1 hm1
      obtain ⟨g1, g2⟩ := hM m1 hm1
      refine ⟨fun y1 hy1 => ?_, g2⟩
      obtain ⟨k1, k2, k3, k4⟩ := g1 y1 hy1
      rw [hF, show lI (lSI σ 7 (9 + m) (nI d)) 7 (3 * m1 + y1) = lI σ 7 (3 * m1 + y1) by rw [lSI_I, if_neg (by omega)]]
      exact ⟨k1, k2, k3, k4⟩
    · intro m1 hm1
      obtain ⟨g1, g2, g3⟩ := hP m1 hm1
      refine ⟨g1, ?_⟩
      have e1 : lI (lSI σ 7 (9 + m) (nI d)) 7 (9 + m1) = if m1 = m then nI d else lI σ 7 (9 + m1) := by
        rw [lSI_I]
        by_cases h9 : m1 = m
        · rw [if_pos ⟨rfl, by omega⟩, if_pos h9]
        · rw [if_neg (by omega), if_neg h9]
      rw [e1, ci_s]
      by_cases h9 : m1 = m
      · rw [if_pos h9, if_pos h9]; exact ⟨rfl, Or.inr ⟨d, by omega, rfl⟩⟩
      · rw [if_neg h9, if_neg h9]; exact ⟨g2, g3⟩
theorem a_pay (hJ : J t σ τ q12 n14 n15 n16 n17) (hW : LW σ) (ht : t < 44) (y : Int32) {m : Nat} (hm : m < 3) : Aok (t + 1) (fS1954 σ τ q12 n14 n15 n16 n17 m y (lOwes σ n14 m)) := by
  obtain ⟨⟨a0, a1, a2, a3, a4, a5, a6, b1, b2, b3, b4, b5⟩, hM, hP, hS, hE, hO, hJC, hV, hJW, hU, hY, hB⟩ := id hJ
  have hc := lowN_lt (y >>> ((nI 2) &&& 31)) (n := 3000000) (by decide)
  unfold fS1954
  generalize lowN (y >>> ((nI 2) &&& 31)) 3000000 = c at hc ⊢
  have hp := (hP m hm).1
  have hB1 : JB (t + 1) (lSL σ 9 m (lL σ 9 m + lN (1 + c))) := by
    refine ⟨hB.1, fun m1 hm1 => ?_⟩
    obtain ⟨p1, p2⟩ := hB.2 m1 hm1
    rw [lSL_L]
    by_cases h9 : m1 = m
    · have e := lE_add (a := lL σ 9 m) (b := lN (1 + c)) rfl (lN_toInt (by omega)) (by rw [h9] at p1; omega) (by rw [h9] at p2; omega)
      rw [if_pos ⟨rfl, h9⟩, e]
      rw [h9] at p1 p2
      omega
    · rw [if_neg (fun z => h9 z.2)]; omega
  have hJ1 : J (t + 1) (lSL σ 9 m (lL σ 9 m + lN (1 + c))) (cSL τ 20 m (cL τ 20 m + lN (1 + c))) q12 n14 n15 n16 n17 := by
    refine ⟨⟨a0, a1, a2, a3, a4, a5, a6, b1, b2, b3, b4, b5⟩, hM, ?_, hS, hE, hO, hJC, hV, hJW, hU, hY, hB1⟩
    intro m1 hm1
    obtain ⟨g1, g2⟩ := hP m1 hm1
    refine ⟨?_, g2⟩
    rw [cSL_L, lSL_L]
    by_cases h9 : m1 = m
    · rw [if_pos ⟨rfl, h9⟩, if_pos ⟨rfl, h9⟩, hp]
    · rw [if_neg (fun z => h9 z.2), if_neg (fun z => h9 z.2)]; exact g1
  have hW1 : LW (lSL σ 9 m (lL σ 9 m + lN (1 + c))) := hW.sL 9 m _
  have hdue : ∀ y, fL_due (lSL σ 9 m (lL σ 9 m + lN (1 + c))) n14 m y = fL_due σ n14 m y := by
    intro y
    unfold fL_due
    rw [w_congr (σ := σ) (σ1 := lSL σ 9 m (lL σ 9 m + lN (1 + c))) (fun _ _ => rfl) n14 m y]
    rfl
  have ho : lOwes (lSL σ 9 m (lL σ 9 m + lN (1 + c))) n14 m = lOwes σ n14 m - lN (1 + c) := by
    unfold lOwes
    rw [hdue, hdue, hdue, lSL_L, if_pos ⟨rfl, rfl⟩]
    rw [Int64.neg_add, Int64.sub_eq_add_neg, l_arc (-(lL σ 9 m)) _ (fL_due σ n14 m 0), l_arc _ _ (fL_due σ n14 m 1), l_arc _ _ (fL_due σ n14 m 2)]
    exact (Int64.sub_eq_add_neg _ _).symm
  obtain ⟨o1, o2⟩ := owes_b hJ hW (by omega) hm
  have hsub := lE_sub (a := lOwes σ n14 m) (b := lN (1 + c)) rfl (lN_toInt (by omega)) (by omega) (by omega)
  have hiff : (0 : Int64) < lOwes σ n14 m - lN (1 + c) ↔ lN (1 + c) < lOwes σ n14 m := by
    rw [Int64.lt_iff_toInt_lt, Int64.lt_iff_toInt_lt, hsub, lN_toInt (by omega)]
    have : (0 : Int64).toInt = 0 := rfl
    omega
  unfold fX7_pay
  rw [p_member (by rw [a0]; exact hm) (by rw [a0]; decide), xb_inr, p_in (1 + c) rfl (by omega) (by omega) (by decide), xb_inr, tn_nI (by omega), nI_l (by omega), o_eq hJ1 hW1 hm, ho]
  by_cases h : lN (1 + c) < lOwes σ n14 m
  · rw [if_pos (hiff.mpr h), lc_inr, if_pos rfl, if_pos h]
    exact ⟨_, _, _, _, _, _, _, rfl, hJ1⟩
  · rw [if_neg (fun z => h (hiff.mp z)), lc_inr, if_pos rfl, if_neg h]
    obtain ⟨-, hM1, hP1, hS1, hE1, hO1, hJC1, hV1, hJW1, hU1, hY1, -⟩ := hJ1
    have hF := f7_ne (lSL σ 9 m (lL σ 9 m + lN (1 + c))) (9 + m) (-1) (by omega)
    refine ⟨_, _, _, _, _, _, _, rfl, JN.of (σ := σ) ⟨a0, a1, a2, a3, a4, a5, a6, b1, b2, b3, b4, b5⟩ hF, ?_, ?_, hS, hE, hO, hJC, hV, hJW.of hF (fun _ _ => rfl), hU, JY.of (τ := cSI (cSL τ 20 m (cL τ 20 m + lN (1 + c))) 20 m (-1)) hY hF (fun _ _ => rfl) (fun _ => rfl), ⟨fun i hi => by rw [hF]; exact hB1.1 i hi, hB1.2⟩⟩
    · intro m1 hm1
      obtain ⟨g1, g2⟩ := hM m1 hm1
      refine ⟨fun y1 hy1 => ?_, g2⟩
      obtain ⟨k1, k2, k3, k4⟩ := g1 y1 hy1
      rw [hF, show lI (lSI (lSL σ 9 m (lL σ 9 m + lN (1 + c))) 7 (9 + m) (-1)) 7 (3 * m1 + y1) = lI σ 7 (3 * m1 + y1) by rw [lSI_I, if_neg (by omega), lSL_I]]
      exact ⟨k1, k2, k3, k4⟩
    · intro m1 hm1
      obtain ⟨g1, g2, g3⟩ := hP1 m1 hm1
      refine ⟨g1, ?_⟩
      have e1 : lI (lSI (lSL σ 9 m (lL σ 9 m + lN (1 + c))) 7 (9 + m) (-1)) 7 (9 + m1) = if m1 = m then -1 else lI σ 7 (9 + m1) := by
        rw [lSI_I]
        by_cases h9 : m1 = m
        · rw [if_pos ⟨rfl, by omega⟩, if_pos h9]
        · rw [if_neg (by omega), if_neg h9, lSL_I]
      rw [e1, ci_s]
      by_cases h9 : m1 = m
      · rw [if_pos h9, if_pos h9]; exact ⟨rfl, Or.inl rfl⟩
      · rw [if_neg h9, if_neg h9]; exact ⟨g2, g3⟩
end JA6
