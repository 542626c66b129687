section JA5
variable {t : Nat} {σ : LT} {τ : CT} {q12 : Int64} {n14 n15 n16 n17 : Nat}
theorem p_open (hJ : J t σ τ q12 n14 n15 n16 n17) {y : Nat} (hy : y < 3) (ho : lF σ ≤ y) : fX7_checkOpen τ y = .inr () := by
  obtain ⟨-, -, -, -, y5, -⟩ := hJ.2.2.2.2.2.2.2.2.2.2.1.1 y hy
  unfold fX7_checkOpen
  rw [if_pos (y5.mpr ho)]
theorem a_rule (hJ : J t σ τ q12 n14 n15 n16 n17) (y : Int32) {w : Nat} (hw : w < 3) (ho : lF σ ≤ w) : Aok (t + 1) (fS1125 σ τ q12 n14 n15 n16 n17 y w) := by
  obtain ⟨⟨a0, a1, a2, a3, a4, a5, a6, b1, b2, b3, b4, b5⟩, hM, hP, hS, hE, hO, hJC, hV, hJW, hU, hY, hB⟩ := id hJ
  have hk := lowN_lt y (n := 4) (by decide)
  have hd := lowN_lt (y >>> ((nI 3) &&& 31)) (n := 5000) (by decide)
  have hl := lowN_lt (y >>> ((nI 11) &&& 31)) (n := 4000000) (by decide)
  unfold fS1125
  generalize lowN y 4 = k at hk ⊢
  generalize lowN (y >>> ((nI 3) &&& 31)) 5000 = d at hd ⊢
  generalize lowN (y >>> ((nI 11) &&& 31)) 4000000 = l at hl ⊢
  have e1 : lI (lSI (lSI σ 4 (6 * k + 2 * w) (nI d)) 4 (6 * k + 2 * w + 1) (nI l)) 4 (6 * k + 2 * w) = nI d := by rw [lSI_I, if_neg (by omega), lSI_I, if_pos ⟨rfl, rfl⟩]
  have e2 : lI (lSI (lSI σ 4 (6 * k + 2 * w) (nI d)) 4 (6 * k + 2 * w + 1) (nI l)) 4 (6 * k + 2 * w + 1) = nI l := by rw [lSI_I, if_pos ⟨rfl, rfl⟩]
  rw [e1, e2, show (6 * k + 2 * w) / 6 = k by omega]
  unfold fX7_rule
  rw [p_kind hk, xb_inr, p_year (by omega), xb_inr, p_in d rfl (by omega) (by omega) (by decide), xb_inr, p_in l rfl (by omega) (by omega) (by decide), xb_inr, tn_nI (by omega), p_open hJ hw ho, xb_inr, lc_inr, tn_nI (by omega), tn_nI (by omega), tn_nI (by omega)]
  refine ⟨_, _, _, _, _, _, _, rfl, ⟨a0, a1, a2, a3, a4, a5, a6, b1, b2, b3, b4, b5⟩, hM, hP, hS, hE, hO, hJC, hV, hJW, ?_, hY, hB.up⟩
  intro k1 hk1 y1 hy1
  have z1 : lI (lSI (lSI σ 4 (6 * k + 2 * w) (nI d)) 4 (6 * k + 2 * w + 1) (nI l)) 4 (6 * k1 + 2 * y1) = if k1 = k ∧ y1 = w then nI d else lI σ 4 (6 * k1 + 2 * y1) := by
    rw [lSI_I, if_neg (by omega), lSI_I]
    by_cases h : k1 = k ∧ y1 = w
    · rw [if_pos h, if_pos ⟨rfl, by omega⟩]
    · rw [if_neg h, if_neg (by omega)]
  have z2 : lI (lSI (lSI σ 4 (6 * k + 2 * w) (nI d)) 4 (6 * k + 2 * w + 1) (nI l)) 4 (6 * k1 + 2 * y1 + 1) = if k1 = k ∧ y1 = w then nI l else lI σ 4 (6 * k1 + 2 * y1 + 1) := by
    rw [lSI_I]
    by_cases h : k1 = k ∧ y1 = w
    · rw [if_pos h, if_pos ⟨rfl, by omega⟩]
    · rw [if_neg h, if_neg (by omega), lSI_I, if_neg (by omega)]
  have z3 : cI (fX4_tell τ k w (nI d) (nI l)) 38 (k1 * 20 + y1) = if k1 = k ∧ y1 = w then nI d else cI τ 38 (k1 * 20 + y1) := by
    unfold fX4_tell
    rw [cSI_I, if_neg (by omega), cSI_I]
    by_cases h : k1 = k ∧ y1 = w
    · rw [if_pos h, if_pos ⟨rfl, by omega⟩]
    · rw [if_neg h, if_neg (by omega)]
  have z4 : cI (fX4_tell τ k w (nI d) (nI l)) 39 (k1 * 20 + y1) = if k1 = k ∧ y1 = w then nI l else cI τ 39 (k1 * 20 + y1) := by
    unfold fX4_tell
    rw [cSI_I]
    by_cases h : k1 = k ∧ y1 = w
    · rw [if_pos h, if_pos ⟨rfl, by omega⟩]
    · rw [if_neg h, if_neg (by omega), cSI_I, if_neg (by omega)]
  rw [z1, z2, z3, z4]
  by_cases h : k1 = k ∧ y1 = w
  · rw [if_pos h, if_pos h, if_pos h, if_pos h]
    exact Or.inr ⟨d, l, by omega, by omega, rfl, rfl, rfl, rfl⟩
  · rw [if_neg h, if_neg h, if_neg h, if_neg h]; exact hU k1 hk1 y1 hy1
theorem a_pool (hJ : J t σ τ q12 n14 n15 n16 n17) (y : Int32) {w : Nat} (hw : w < 3) (ho : lF σ ≤ w) : Aok (t + 1) (fS1216 σ τ q12 n14 n15 n16 n17 y w) := by
  obtain ⟨⟨a0, a1, a2, a3, a4, a5, a6, b1, b2, b3, b4, b5⟩, hM, hP, hS, hE, hO, hJC, hV, hJW, hU, hY, hB⟩ := id hJ
  have hr := lowN_lt y (n := 100000) (by decide)
  have hz := lowN_lt (y >>> ((nI 9) &&& 31)) (n := 900000) (by decide)
  have hq := lowN_lt (y >>> ((nI 4) &&& 31)) (n := 101) (by decide)
  unfold fS1216
  generalize lowN y 100000 = r at hr ⊢
  generalize lowN (y >>> ((nI 9) &&& 31)) 900000 = z at hz ⊢
  generalize lowN (y >>> ((nI 4) &&& 31)) 101 = q at hq ⊢
  have e0 : lI (lSI σ 5 (3 * w) (nI r)) 5 (3 * w) + nI z = nI (r + z) := by rw [lSI_I, if_pos ⟨rfl, rfl⟩, nI_add]
  rw [e0]
  have e1 : lI (lSI (lSI (lSI σ 5 (3 * w) (nI r)) 5 (3 * w + 1) (nI (r + z))) 5 (3 * w + 2) (nI q)) 5 (3 * w) = nI r := by rw [lSI_I, if_neg (by omega), lSI_I, if_neg (by omega), lSI_I, if_pos ⟨rfl, rfl⟩]
  have e2 : lI (lSI (lSI (lSI σ 5 (3 * w) (nI r)) 5 (3 * w + 1) (nI (r + z))) 5 (3 * w + 2) (nI q)) 5 (3 * w + 1) = nI (r + z) := by rw [lSI_I, if_neg (by omega), lSI_I, if_pos ⟨rfl, rfl⟩]
  have e3 : lI (lSI (lSI (lSI σ 5 (3 * w) (nI r)) 5 (3 * w + 1) (nI (r + z))) 5 (3 * w + 2) (nI q)) 5 (3 * w + 2) = nI q := by rw [lSI_I, if_pos ⟨rfl, rfl⟩]
  rw [e1, e2, e3]
  unfold fX7_pool
  rw [p_year (by omega), xb_inr, p_in r rfl (by omega) (by omega) (by decide), xb_inr, tn_nI (show r < 2 ^ 31 by omega), p_in (r + z) rfl (by omega) (by omega) (by decide), xb_inr, p_in q rfl (by omega) (by omega) (by decide), xb_inr, tn_nI (by omega), p_open hJ hw ho, xb_inr, lc_inr, tn_nI (by omega), tn_nI (by omega)]
  refine ⟨_, _, _, _, _, _, _, rfl, ⟨a0, a1, a2, a3, a4, a5, a6, b1, b2, b3, b4, b5⟩, hM, hP, hS, hE, hO, hJC, hV, hJW, hU, ⟨?_, hY.2⟩, hB.up⟩
  intro y1 hy1
  obtain ⟨u1, u2, u3, u4, u5, u6⟩ := hY.1 y1 hy1
  refine ⟨u1, u2, u3, u4, u5, ?_⟩
  by_cases h : y1 = w
  · subst h
    refine Or.inr ⟨?_, r, r + z, q, by omega, by omega, by omega, by omega, e1, ?_, e2, ?_, e3, ?_⟩
    · show ¬ (if 34 = 37 ∧ y1 = y1 then nI q else if 34 = 36 ∧ y1 = y1 then nI (r + z) else if 34 = 35 ∧ y1 = y1 then nI r else if 34 = 34 ∧ y1 = y1 then nI 1 else cI τ 34 y1) = 0
      simp
      exact n10
    · show (if 35 = 37 ∧ y1 = y1 then nI q else if 35 = 36 ∧ y1 = y1 then nI (r + z) else if 35 = 35 ∧ y1 = y1 then nI r else if 35 = 34 ∧ y1 = y1 then nI 1 else cI τ 35 y1) = _
      simp
    · show (if 36 = 37 ∧ y1 = y1 then nI q else if 36 = 36 ∧ y1 = y1 then nI (r + z) else if 36 = 35 ∧ y1 = y1 then nI r else if 36 = 34 ∧ y1 = y1 then nI 1 else cI τ 36 y1) = _
      simp
    · show (if 37 = 37 ∧ y1 = y1 then nI q else if 37 = 36 ∧ y1 = y1 then nI (r + z) else if 37 = 35 ∧ y1 = y1 then nI r else if 37 = 34 ∧ y1 = y1 then nI 1 else cI τ 37 y1) = _
      simp
  · have ce : ∀ a, cI (fX6_tellPool τ w (nI r) (nI (r + z)) (nI q)) a y1 = cI τ a y1 := by
      intro a
      unfold fX6_tellPool
      rw [cSI_I, if_neg (fun g => h g.2), cSI_I, if_neg (fun g => h g.2), cSI_I, if_neg (fun g => h g.2), cSI_I, if_neg (fun g => h g.2)]
    rw [ce, ce, ce, ce]
    have le : ∀ j, j < 3 → lI (lSI (lSI (lSI σ 5 (3 * w) (nI r)) 5 (3 * w + 1) (nI (r + z))) 5 (3 * w + 2) (nI q)) 5 (3 * y1 + j) = lI σ 5 (3 * y1 + j) := by
      intro j hj
      rw [lSI_I, if_neg (by omega), lSI_I, if_neg (by omega), lSI_I, if_neg (by omega)]
    rw [show 3 * y1 = 3 * y1 + 0 from rfl, le 0 (by decide), le 1 (by decide), le 2 (by decide)]
    exact u6
theorem a_rate (hJ : J t σ τ q12 n14 n15 n16 n17) (y : Int32) {m w : Nat} (hm : m < 3) (hw : w < 3) (ho : lF σ ≤ w) : Aok (t + 1) (fS1463 σ τ q12 n14 n15 n16 n17 m y w) := by
  obtain ⟨⟨a0, a1, a2, a3, a4, a5, a6, b1, b2, b3, b4, b5⟩, hM, hP, hS, hE, hO, hJC, hV, hJW, hU, hY, hB⟩ := id hJ
  have hr := lowN_lt (y >>> ((nI 5) &&& 31)) (n := 200) (by decide)
  unfold fS1463
  generalize lowN (y >>> ((nI 5) &&& 31)) 200 = r at hr ⊢
  by_cases h : lI σ 7 (3 * m + w) = nI 1
  · rw [if_pos h]; exact Aok.same hJ rfl
  · rw [if_neg h]
    unfold fX7_rate
    rw [p_member (by rw [a0]; exact hm) (by rw [a0]; decide), xb_inr, p_year (by omega), xb_inr, p_in (10 + r) rfl (by omega) (by omega) (by decide), xb_inr, tn_nI (by omega), p_open hJ hw ho, xb_inr, if_pos ((rel_iff hJ hm hw).mpr h), lc_inr, if_pos ((hM m hm).1 w hw).1, tn_nI (by omega)]
    refine ⟨_, _, _, _, _, _, _, rfl, ⟨a0, a1, a2, a3, a4, a5, a6, b1, b2, b3, b4, b5⟩, ?_, hP, hS, hE, hO, hJC, hV, hJW, hU, hY, hB.up⟩
    intro m1 hm1
    obtain ⟨g1, g2⟩ := hM m1 hm1
    refine ⟨fun y1 hy1 => ?_, fun y1 h3 hy1 => ?_⟩
    · obtain ⟨k1, k2, k3, k4⟩ := g1 y1 hy1
      show (if 0 = 0 ∧ m1 = m ∧ y1 = w then nI (10 + r) else cM τ 0 m1 y1) = nI (if 2 = 2 ∧ 3 * m1 + y1 = 3 * m + w then 10 + r else lK σ 2 (3 * m1 + y1)) ∧ 10 ≤ (if 2 = 2 ∧ 3 * m1 + y1 = 3 * m + w then 10 + r else lK σ 2 (3 * m1 + y1)) ∧ (if 2 = 2 ∧ 3 * m1 + y1 = 3 * m + w then 10 + r else lK σ 2 (3 * m1 + y1)) ≤ 500 ∧ _
      by_cases h9 : m1 = m ∧ y1 = w
      · rw [if_pos ⟨rfl, h9⟩, if_pos ⟨rfl, by omega⟩]
        exact ⟨rfl, by omega, by omega, k4⟩
      · rw [if_neg (fun z => h9 z.2), if_neg (by omega)]
        exact ⟨k1, k2, k3, k4⟩
    · obtain ⟨k1, k2, k3⟩ := g2 y1 h3 hy1
      refine ⟨?_, k2, k3⟩
      show (if 0 = 0 ∧ m1 = m ∧ y1 = w then nI (10 + r) else cM τ 0 m1 y1) = nI 100
      rw [if_neg (by omega)]; exact k1
theorem a_further (hJ : J t σ τ q12 n14 n15 n16 n17) (y : Int32) {m w : Nat} (hm : m < 3) (hw : w < 3) (ho : lF σ ≤ w) : Aok (t + 1) (fS1401 σ τ q12 n14 n15 n16 n17 m y w) := by
  obtain ⟨⟨a0, a1, a2, a3, a4, a5, a6, b1, b2, b3, b4, b5⟩, hM, hP, hS, hE, hO, hJC, hV, hJW, hU, hY, hB⟩ := id hJ
  have hr := lowN_lt (y >>> ((nI 14) &&& 31)) (n := 80) (by decide)
  unfold fS1401
  generalize lowN (y >>> ((nI 14) &&& 31)) 80 = r at hr ⊢
  obtain ⟨u1, u2, u3, u4, u5, u6⟩ := hY.1 w hw
  by_cases h : 1000 < lK σ 6 (3 + w) + (1 + r)
  · rw [if_pos h]; exact a_rate hJ y hm hw ho
  · rw [if_neg h]
    unfold fX7_further
    rw [p_year (by omega), xb_inr, p_in (1 + r) rfl (by omega) (by omega) (by decide), xb_inr, tn_nI (by omega), p_open hJ hw ho, xb_inr, u3, tn_nI (by omega), nI_add, if_pos (nI_le (by omega) (by decide)), lc_inr]
    have e1 : lK (lSK σ 6 (3 + w) (lK σ 6 (3 + w) + (1 + r))) 6 (3 + w) = lK σ 6 (3 + w) + (1 + r) := by rw [lSK_K, if_pos ⟨rfl, rfl⟩]
    rw [e1, if_pos rfl]
    refine a_rate (τ := cSI τ 32 w (nI (lK σ 6 (3 + w) + (1 + r)))) (σ := lSK σ 6 (3 + w) (lK σ 6 (3 + w) + (1 + r))) ⟨⟨a0, a1, a2, a3, a4, a5, a6, b1, b2, b3, b4, b5⟩, hM, hP, hS, hE, hO, hJC, hV, hJW, hU, ⟨fun y1 hy1 => ?_, hY.2⟩, hB⟩ y hm hw ho
    obtain ⟨v1, v2, v3, v4, v5, v6⟩ := hY.1 y1 hy1
    have f1 : lK (lSK σ 6 (3 + w) (lK σ 6 (3 + w) + (1 + r))) 6 y1 = lK σ 6 y1 := by rw [lSK_K, if_neg (by omega)]
    have f2 : lK (lSK σ 6 (3 + w) (lK σ 6 (3 + w) + (1 + r))) 6 (3 + y1) = if y1 = w then lK σ 6 (3 + w) + (1 + r) else lK σ 6 (3 + y1) := by
      rw [lSK_K]
      by_cases h9 : y1 = w
      · rw [if_pos ⟨rfl, by omega⟩, if_pos h9]
      · rw [if_neg (by omega), if_neg h9]
    rw [f1, f2, ci_s]
    by_cases h9 : y1 = w
    · rw [if_pos h9, if_pos h9]; exact ⟨v1, v2, rfl, by omega, v5, v6⟩
    · rw [if_neg h9, if_neg h9]; exact ⟨v1, v2, v3, v4, v5, v6⟩
theorem a_eight (hJ : J t σ τ q12 n14 n15 n16 n17) (y : Int32) {m w : Nat} (hm : m < 3) (hw : w < 3) (ho : lF σ ≤ w) : Aok (t + 1) (fS1326 σ τ q12 n14 n15 n16 n17 m y w) := by
  obtain ⟨⟨a0, a1, a2, a3, a4, a5, a6, b1, b2, b3, b4, b5⟩, hM, hP, hS, hE, hO, hJC, hV, hJW, hU, hY, hB⟩ := id hJ
  have hr := lowN_lt y (n := 9000) (by decide)
  obtain ⟨u1, u2, u3, u4, u5, u6⟩ := hY.1 w hw
  have e : fS1326 σ τ q12 n14 n15 n16 n17 m y w = fS1326_L1332 σ τ q12 n14 n15 n16 n17 m y w 0 3 (if lI σ 7 (3 * 2 + w) = nI 1 then 1 else if lI σ 7 (3 * 1 + w) = nI 1 then 1 else if lI σ 7 (3 * 0 + w) = nI 1 then 1 else 0) := rfl
  rw [e]
  simp only [fS1326_L1332]
  generalize lowN y 9000 = r at hr ⊢
  have i0 := rel_iff hJ (show 0 < 3 by decide) hw
  have i1 := rel_iff hJ (show 1 < 3 by decide) hw
  have i2 := rel_iff hJ (show 2 < 3 by decide) hw
  by_cases h : lI σ 7 (3 * 2 + w) = nI 1 ∨ lI σ 7 (3 * 1 + w) = nI 1 ∨ lI σ 7 (3 * 0 + w) = nI 1
  · have e9 : ¬ (if lI σ 7 (3 * 2 + w) = nI 1 then 1 else if lI σ 7 (3 * 1 + w) = nI 1 then 1 else if lI σ 7 (3 * 0 + w) = nI 1 then 1 else 0) = 0 := by
      rcases h with h | h | h
      · rw [if_pos h]; decide
      · rw [if_pos h]; split <;> decide
      · rw [if_pos h]; repeat' split
        all_goals decide
    rw [if_neg e9]
    exact a_further hJ y hm hw ho
  · have h2 : ¬ lI σ 7 (3 * 2 + w) = nI 1 := fun z => h (Or.inl z)
    have h1 : ¬ lI σ 7 (3 * 1 + w) = nI 1 := fun z => h (Or.inr (Or.inl z))
    have h0 : ¬ lI σ 7 (3 * 0 + w) = nI 1 := fun z => h (Or.inr (Or.inr z))
    rw [if_neg h2, if_neg h1, if_neg h0, if_pos rfl]
    have ead : fX7_advance τ (nI w) (nI r) = .inr (cI τ 31 w, cSI τ 31 w (nI r)) := by
      unfold fX7_advance
      rw [p_year (by omega), xb_inr, p_in r rfl (by omega) (by omega) (by decide), xb_inr, tn_nI (by omega), p_open hJ hw ho, xb_inr, a0]
      simp only [fX7_advance_L18, fX7_advance_S18]
      rw [tn_nI (by omega), tn_nI (by omega), if_pos (i0.mpr h0), lb_inl, if_pos (i1.mpr h1), lb_inl, if_pos (i2.mpr h2), lb_inl]
    rw [ead, lc_inr, if_pos u1]
    refine a_further (τ := cSI τ 31 w (nI r)) (σ := lSK σ 6 w r) ⟨⟨a0, a1, a2, a3, a4, a5, a6, b1, b2, b3, b4, b5⟩, hM, hP, hS, hE, hO, hJC, hV, hJW, hU, ⟨fun y1 hy1 => ?_, fun y1 h3 hy1 => ?_⟩, hB⟩ y hm hw ho
    · obtain ⟨v1, v2, v3, v4, v5, v6⟩ := hY.1 y1 hy1
      have f1 : lK (lSK σ 6 w r) 6 y1 = if y1 = w then r else lK σ 6 y1 := by
        rw [lSK_K]
        by_cases h9 : y1 = w
        · rw [if_pos ⟨rfl, by omega⟩, if_pos h9]
        · rw [if_neg (by omega), if_neg h9]
      have f2 : lK (lSK σ 6 w r) 6 (3 + y1) = lK σ 6 (3 + y1) := by rw [lSK_K, if_neg (by omega)]
      rw [f1, f2, ci_s]
      by_cases h9 : y1 = w
      · rw [if_pos h9, if_pos h9]; exact ⟨rfl, by omega, v3, v4, v5, v6⟩
      · rw [if_neg h9, if_neg h9]; exact ⟨v1, v2, v3, v4, v5, v6⟩
    · obtain ⟨v1, v2⟩ := hY.2 y1 h3 hy1
      refine ⟨?_, v2⟩
      rw [ci_s, if_neg (by omega)]; exact v1
end JA5
