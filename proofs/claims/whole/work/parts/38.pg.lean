theorem p_open {σ : MT} {τ : CT} (hY : RelY σ τ) (h34 : mN σ 34 ≤ 20) {y : Nat} (hy : y < 20) : (mN σ 34 ≤ y ∧ nI (mN σ 34) ≤ nI y ∧ ¬ nI y < nI (mN σ 34) ∧ fX7_checkOpen τ y = .inr ()) ∨ (¬ mN σ 34 ≤ y ∧ ¬ nI (mN σ 34) ≤ nI y ∧ nI y < nI (mN σ 34) ∧ fX7_checkOpen τ y = .inl ISE) := by
  have h := (hY y hy).2.2.1
  unfold fX7_checkOpen
  by_cases hc : mN σ 34 ≤ y
  · exact Or.inl ⟨hc, nI_le hc (by omega), nI_nlt hc (by omega), if_pos (h.mpr hc)⟩
  · exact Or.inr ⟨hc, by rw [nI_leI (by omega) (by omega)]; exact hc, nI_lt (by omega) (by omega), if_neg (fun z => hc (h.mp z))⟩
theorem p_uns {σ : MT} {τ : CT} (hC : RelC σ τ) {c : Nat} (hc : c < cN τ 3) : (mI σ 26 c = 0 ∧ cI τ 26 c = 0 ∧ fX7_checkUnsettled τ c = .inr ()) ∨ (¬ mI σ 26 c = 0 ∧ ¬ cI τ 26 c = 0 ∧ fX7_checkUnsettled τ c = .inl ISE) := by
  have h := (hC c hc).2.2.2.2.2.2.1
  unfold fX7_checkUnsettled
  rw [h]
  by_cases h2 : cI τ 26 c = 0
  · exact Or.inl ⟨h2, h2, if_pos h2⟩
  · exact Or.inr ⟨h2, h2, if_neg h2⟩
theorem u_eq {α : Type} {P : Prop} [Decidable P] {v a b : α} (h : a = b) : (if P then v else a) = (if P then v else b) := by rw [h]
theorem q_estimate {σ : MT} {τ : CT} (hR : Rel σ τ) (hW : CW τ) (th : Int32) (a1 a2 : Int32) : xEq (wIs (fX7_estimate τ a1 a2)) ["java/lang/IndexOutOfBoundsException", "java/lang/IllegalArgumentException", "java/lang/IllegalStateException"] τ (some (fX8_estimate σ th a1 a2).1.toInt64) (fX8_estimate σ th a1 a2).2.1 (fX8_estimate σ th a1 a2).2.2 := by
  have w := hW.1
  obtain ⟨hN, hB, hM, hP, hS, hE, hO, hC, hZ, hA, hV, hw, hU, hY⟩ := id hR
  have hN34 := hN.2.2.2.2.2.2.2.1
  unfold fX7_estimate fX8_estimate
  rcases p_claim hR.1 hW a1 with ⟨m1a, m1b⟩ | ⟨q1, h1, e1, t1, m1a, m1b⟩
  · simp only [m1a, m1b, if_pos n00, ite_self, xb_l]; exact xEq.thr hR rfl (Or.inl ⟨rfl, rfl⟩)
  simp only [m1a, m1b, if_neg n10, xb_r, t1]
  rcases p_loss a2 with ⟨m2a, m2b⟩ | ⟨q2, h2, e2, t2, m2a, m2b⟩
  · simp only [m2a, m2b, if_pos n00, ite_self, xb_l]; exact xEq.thr hR rfl (Or.inr (Or.inl ⟨rfl, rfl⟩))
  simp only [m2a, m2b, if_neg n10, xb_r, t2]
  rcases p_uns hC h1 with ⟨u1, u2, u3⟩ | ⟨u1, u2, u3⟩
  · simp only [u3, xb_r, if_pos u1]
    rw [(hC q1 h1).2.2.2.2.1]
    refine xEq.ret rfl rfl ⟨hN, hB, hM, hP, hS, hE, hO, ?_, hZ, hA, hV, hw, hU, hY⟩
    · intro c hc
      obtain ⟨c1, c2, c3, c4, c5, c6, c7, c8, c9, c10⟩ := hC c hc
      refine ⟨c1, c2, c3, c4, ?_, c6, c7, c8, ?_, c10⟩
      · exact (show (if (24 : Nat) = 24 ∧ c = q1 then nI q2 else mI σ 24 c) = (if (24 : Nat) = 24 ∧ c = q1 then nI q2 else cI τ 24 c) by
          by_cases h : c = q1
          · rw [if_pos ⟨rfl, h⟩, if_pos ⟨rfl, h⟩]
          · rw [if_neg (fun z => h z.2), if_neg (fun z => h z.2)]; exact c5)
      · show ∃ q, q ≤ 100000000 ∧ (if (24 : Nat) = 24 ∧ c = q1 then nI q2 else cI τ 24 c) = nI q
        by_cases h : c = q1
        · exact ⟨q2, by omega, if_pos ⟨rfl, h⟩⟩
        · rw [if_neg (fun z => h z.2)]; exact c9
  · simp only [u3, xb_l, if_neg u1]; exact xEq.thr hR rfl (Or.inr (Or.inr ⟨rfl, rfl⟩))
theorem q_broken {σ : MT} {τ : CT} (hR : Rel σ τ) (hW : CW τ) (th : Int32) (a1 : Int32) : xEq (wVs (fX7_broken τ a1)) ["java/lang/IndexOutOfBoundsException", "java/lang/IllegalStateException"] τ none (fX8_broken σ th a1).1 (fX8_broken σ th a1).2 := by
  have w := hW.1
  obtain ⟨hN, hB, hM, hP, hS, hE, hO, hC, hZ, hA, hV, hw, hU, hY⟩ := id hR
  have hN34 := hN.2.2.2.2.2.2.2.1
  unfold fX7_broken fX8_broken
  rcases p_claim hR.1 hW a1 with ⟨m1a, m1b⟩ | ⟨q1, h1, e1, t1, m1a, m1b⟩
  · simp only [m1a, m1b, if_pos n00, ite_self, xb_l]; exact xEq.thr hR rfl (Or.inl ⟨rfl, rfl⟩)
  simp only [m1a, m1b, if_neg n10, xb_r, t1]
  rcases p_uns hC h1 with ⟨u1, u2, u3⟩ | ⟨u1, u2, u3⟩
  · simp only [u3, xb_r, if_pos u1]
    rw [(hC q1 h1).2.2.2.2.2.2.2.1]
    by_cases hb : cI τ 27 q1 = 0
    · simp only [if_pos hb]
      refine xEq.ret rfl rfl ⟨hN, ?_, hM, hP, hS, hE, hO, ?_, ?_, hA, hV, hw, hU, hY⟩
      · obtain ⟨b1, b2, b3, b4⟩ := hB
        refine ⟨b1, ?_, b3, b4⟩
        intro k
        show (if (27 : Nat) = 27 ∧ k = q1 then nI 1 else mI σ 27 k) = 0 ∨ (if (27 : Nat) = 27 ∧ k = q1 then nI 1 else mI σ 27 k) = 1
        by_cases h : k = q1
        · rw [if_pos ⟨rfl, h⟩]; exact Or.inr rfl
        · rw [if_neg (fun z => h z.2)]; exact b2 k
      · intro c hc
        obtain ⟨c1, c2, c3, c4, c5, c6, c7, c8, c9, c10⟩ := hC c hc
        refine ⟨c1, c2, c3, c4, c5, c6, c7, ?_, c9, c10⟩
        · exact (show (if (27 : Nat) = 27 ∧ c = q1 then nI 1 else mI σ 27 c) = (if (27 : Nat) = 27 ∧ c = q1 then nI 1 else cI τ 27 c) by
            by_cases h : c = q1
            · rw [if_pos ⟨rfl, h⟩, if_pos ⟨rfl, h⟩]
            · rw [if_neg (fun z => h z.2), if_neg (fun z => h z.2)]; exact c8)
      · intro c h9 h8
        obtain ⟨z1, z2, z3⟩ := hZ c h9 h8
        have hne : c ≠ q1 := by have h7 : cN τ 3 ≤ c := h9; omega
        refine ⟨?_, ?_, ?_⟩
        · exact z1
        · exact (if_neg (fun y => hne y.2)).trans z2
        · exact z3
    · simp only [if_neg hb]; exact xEq.thr hR rfl (Or.inr ⟨rfl, rfl⟩)
  · simp only [u3, xb_l, if_neg u1]; exact xEq.thr hR rfl (Or.inr ⟨rfl, rfl⟩)
theorem q_settle {σ : MT} {τ : CT} (hR : Rel σ τ) (hW : CW τ) (th : Int32) (a1 a2 : Int32) : xEq (wVs (fX7_settle τ a1 a2)) ["java/lang/IndexOutOfBoundsException", "java/lang/IllegalStateException"] τ none (fX8_settle σ th a1 a2).1 (fX8_settle σ th a1 a2).2 := by
  have w := hW.1
  obtain ⟨hN, hB, hM, hP, hS, hE, hO, hC, hZ, hA, hV, hw, hU, hY⟩ := id hR
  have hN34 := hN.2.2.2.2.2.2.2.1
  unfold fX7_settle fX8_settle
  rcases p_claim hR.1 hW a1 with ⟨m1a, m1b⟩ | ⟨q1, h1, e1, t1, m1a, m1b⟩
  · simp only [m1a, m1b, if_pos n00, ite_self, xb_l]; exact xEq.thr hR rfl (Or.inl ⟨rfl, rfl⟩)
  simp only [m1a, m1b, if_neg n10, xb_r, t1]
  rcases p_uns hC h1 with ⟨u1, u2, u3⟩ | ⟨u1, u2, u3⟩
  · simp only [u3, xb_r, if_pos u1]
    by_cases hb : a2 = 0
    · simp only [if_pos hb]
      refine xEq.ret rfl rfl ⟨hN, ?_, hM, hP, hS, hE, hO, ?_, ?_, hA, hV, hw, hU, hY⟩
      · obtain ⟨b1, b2, b3, b4⟩ := hB
        refine ⟨?_, b2, b3, b4⟩
        intro k
        show (if (26 : Nat) = 26 ∧ k = q1 then nI 1 else mI σ 26 k) = 0 ∨ (if (26 : Nat) = 26 ∧ k = q1 then nI 1 else mI σ 26 k) = 1
        by_cases h : k = q1
        · rw [if_pos ⟨rfl, h⟩]; exact Or.inr rfl
        · rw [if_neg (fun z => h z.2)]; exact b1 k
      · intro c hc
        obtain ⟨c1, c2, c3, c4, c5, c6, c7, c8, c9, c10⟩ := hC c hc
        refine ⟨c1, c2, c3, c4, ?_, c6, ?_, c8, c9, c10⟩
        · show (if (24 : Nat) = 24 ∧ c = q1 then mI (mSI σ 26 q1 (nI 1)) 24 q1 else mI σ 24 c) = cI τ 24 c
          by_cases h : c = q1
          · rw [if_pos ⟨rfl, h⟩, ← h]; exact c5
          · rw [if_neg (fun z => h z.2)]; exact c5
        · show (if (26 : Nat) = 26 ∧ c = q1 then nI 1 else mI σ 26 c) = (if (26 : Nat) = 26 ∧ c = q1 then nI 1 else cI τ 26 c)
          exact u_eq c7
      · intro c h9 h8
        obtain ⟨z1, z2, z3⟩ := hZ c h9 h8
        have hne : c ≠ q1 := by have h7 : cN τ 3 ≤ c := h9; omega
        refine ⟨?_, ?_, ?_⟩
        · exact (if_neg (fun y => hne y.2)).trans z1
        · exact z2
        · exact z3
    · simp only [if_neg hb]
      refine xEq.ret rfl rfl ⟨hN, ?_, hM, hP, hS, hE, hO, ?_, ?_, hA, hV, hw, hU, hY⟩
      · obtain ⟨b1, b2, b3, b4⟩ := hB
        refine ⟨?_, b2, b3, b4⟩
        intro k
        show (if (26 : Nat) = 26 ∧ k = q1 then nI 1 else mI σ 26 k) = 0 ∨ (if (26 : Nat) = 26 ∧ k = q1 then nI 1 else mI σ 26 k) = 1
        by_cases h : k = q1
        · rw [if_pos ⟨rfl, h⟩]; exact Or.inr rfl
        · rw [if_neg (fun z => h z.2)]; exact b1 k
      · intro c hc
        obtain ⟨c1, c2, c3, c4, c5, c6, c7, c8, c9, c10⟩ := hC c hc
        refine ⟨c1, c2, c3, c4, ?_, c6, ?_, c8, ?_, c10⟩
        · show (if (24 : Nat) = 24 ∧ c = q1 then nI 0 else mI σ 24 c) = (if (24 : Nat) = 24 ∧ c = q1 then nI 0 else cI τ 24 c)
          exact u_eq c5
        · show (if (26 : Nat) = 26 ∧ c = q1 then nI 1 else mI σ 26 c) = (if (26 : Nat) = 26 ∧ c = q1 then nI 1 else cI τ 26 c)
          exact u_eq c7
        · show ∃ q, q ≤ 100000000 ∧ (if (24 : Nat) = 24 ∧ c = q1 then nI 0 else cI τ 24 c) = nI q
          by_cases h : c = q1
          · exact ⟨0, by omega, if_pos ⟨rfl, h⟩⟩
          · rw [if_neg (fun z => h z.2)]; exact c9
      · intro c h9 h8
        obtain ⟨z1, z2, z3⟩ := hZ c h9 h8
        have hne : c ≠ q1 := by have h7 : cN τ 3 ≤ c := h9; omega
        refine ⟨?_, ?_, ?_⟩
        · exact (if_neg (fun y => hne y.2)).trans z1
        · exact z2
        · exact z3
  · simp only [u3, xb_l, if_neg u1]; exact xEq.thr hR rfl (Or.inr ⟨rfl, rfl⟩)
theorem q_letter {σ : MT} {τ : CT} (hR : Rel σ τ) (hW : CW τ) (th : Int32) (a1 a2 : Int32) : xEq (wIs (fX7_letter τ a1 a2)) ["java/lang/IndexOutOfBoundsException", "java/lang/IllegalArgumentException", "java/lang/IllegalStateException"] τ (some (fX8_letter σ th a1 a2).1.toInt64) (fX8_letter σ th a1 a2).2.1 (fX8_letter σ th a1 a2).2.2 := by
  have w := hW.1
  obtain ⟨hN, hB, hM, hP, hS, hE, hO, hC, hZ, hA, hV, hw, hU, hY⟩ := id hR
  have hN34 := hN.2.2.2.2.2.2.2.1
  unfold fX7_letter fX8_letter
  rcases p_claim hR.1 hW a1 with ⟨m1a, m1b⟩ | ⟨q1, h1, e1, t1, m1a, m1b⟩
  · simp only [m1a, m1b, if_pos n00, ite_self, xb_l]; exact xEq.thr hR rfl (Or.inl ⟨rfl, rfl⟩)
  simp only [m1a, m1b, if_neg n10, xb_r, t1]
  rcases p_in (x := a2) (a := 1) (b := 100000000) (by first | decide | omega) (by first | decide | omega) with ⟨m2a, m2b⟩ | ⟨q2, g2, h2, e2, m2a, m2b⟩
  · simp only [m2a, m2b, if_pos n00, ite_self, xb_l]; exact xEq.thr hR rfl (Or.inr (Or.inl ⟨rfl, rfl⟩))
  have t2 : tn a2 = q2 := by rw [e2]; exact tn_nI (by omega)
  simp only [m2a, m2b, if_neg n10, xb_r, t2]
  rcases p_uns hC h1 with ⟨u1, u2, u3⟩ | ⟨u1, u2, u3⟩
  · simp only [u3, xb_r, if_pos u1]
    obtain ⟨-, -, -, -, c5, c6, -, -, ⟨x, x1, x2⟩, z, z1, z2⟩ := hC q1 h1
    have hv : mI (mSI σ 29 q1 (mI σ 29 q1 + nI q2)) 29 q1 = mI σ 29 q1 + nI q2 := if_pos ⟨rfl, rfl⟩
    rw [hv, c5, c6, x2, z2, nI_add, nI_l (by omega), nI_l (by omega), nI_l (by omega), lN_add]
    by_cases hl : z + q2 ≤ x
    · have g1 : nI (z + q2) ≤ nI x := nI_le hl (by omega)
      have g2 : ¬ lN x < lN (z + q2) := fun y => by have := (pk_lLT (by omega) (by omega)).mp y; omega
      simp only [if_pos g1, if_neg g2]
      refine xEq.ret rfl rfl ⟨hN, hB, hM, hP, hS, hE, hO, ?_, ?_, hA, hV, hw, hU, hY⟩
      · intro c hc
        obtain ⟨c1, c2, c3, c4, c5, c6, c7, c8, c9, c10⟩ := hC c hc
        refine ⟨c1, c2, c3, c4, c5, ?_, c7, c8, c9, ?_⟩
        · exact (show (if (29 : Nat) = 29 ∧ c = q1 then nI (z + q2) else mI σ 29 c) = (if (25 : Nat) = 25 ∧ c = q1 then nI (z + q2) else cI τ 25 c) by
            by_cases h : c = q1
            · rw [if_pos ⟨rfl, h⟩, if_pos ⟨rfl, h⟩]
            · rw [if_neg (fun z => h z.2), if_neg (fun z => h z.2)]; exact c6)
        · show ∃ q, q ≤ 100000000 ∧ (if (25 : Nat) = 25 ∧ c = q1 then nI (z + q2) else cI τ 25 c) = nI q
          by_cases h : c = q1
          · exact ⟨z + q2, by omega, if_pos ⟨rfl, h⟩⟩
          · rw [if_neg (fun z => h z.2)]; exact c10
      · intro c h9 h8
        obtain ⟨z1, z2, z3⟩ := hZ c h9 h8
        have hne : c ≠ q1 := by have h7 : cN τ 3 ≤ c := h9; omega
        refine ⟨?_, ?_, ?_⟩
        · exact z1
        · exact z2
        · exact (if_neg (fun y => hne y.2)).trans z3
    · have g1 : ¬ nI (z + q2) ≤ nI x := by rw [nI_leI (by omega) (by omega)]; exact hl
      have g2 : lN x < lN (z + q2) := (pk_lLT (by omega) (by omega)).mpr (by omega)
      simp only [if_neg g1, if_pos g2]; exact xEq.thr hR rfl (Or.inr (Or.inr ⟨rfl, rfl⟩))
  · simp only [u3, xb_l, if_neg u1]; exact xEq.thr hR rfl (Or.inr (Or.inr ⟨rfl, rfl⟩))
theorem q_pass {σ : MT} {τ : CT} (hR : Rel σ τ) (hW : CW τ) (th : Int32) (a1 : Int32) : xEq (wIs (fX7_pass τ a1)) ["java/lang/IllegalArgumentException", "java/lang/IllegalStateException"] τ (some (fX8_pass σ th a1).1.toInt64) (fX8_pass σ th a1).2.1 (fX8_pass σ th a1).2.2 := by
  have w := hW.1
  obtain ⟨hN, hB, hM, hP, hS, hE, hO, hC, hZ, hA, hV, hw, hU, hY⟩ := id hR
  have hN34 := hN.2.2.2.2.2.2.2.1
  unfold fX7_pass fX8_pass
  rcases p_in (x := a1) (a := 1) (b := 200) (by first | decide | omega) (by first | decide | omega) with ⟨m1a, m1b⟩ | ⟨q1, g1, h1, e1, m1a, m1b⟩
  · simp only [m1a, m1b, if_pos n00, ite_self, xb_l]; exact xEq.thr hR rfl (Or.inl ⟨rfl, rfl⟩)
  have t1 : tn a1 = q1 := by rw [e1]; exact tn_nI (by omega)
  simp only [m1a, m1b, if_neg n10, xb_r, t1]
  rw [hN.1]
  by_cases hl : cN τ 5 + q1 ≤ 1999
  · have g1 : nI (cN τ 5 + q1) ≤ nI 1999 := nI_le hl (by omega)
    have g2 : nI (cN τ 5 + q1) < nI 2000 := nI_lt (by omega) (by omega)
    simp only [if_pos g1, if_pos g2]
    refine xEq.ret rfl rfl ⟨?_, hB, hM, hP, hS, ?_, hO, hC, hZ, hA, hV, hw, hU, hY⟩
    · obtain ⟨-, n2, n3, n4, n5, n6, n7, n8, n9, n10⟩ := hN
      exact ⟨rfl, n2, n3, n4, n5, n6, n7, n8, n9, by show mN σ 34 * 100 ≤ cN τ 5 + q1; omega⟩
    · intro e he
      obtain ⟨e1, f, f1, f2, f3, f4⟩ := hE e he
      have h5 : cN (cSK τ 5 0 (cN τ 5 + q1)) 5 = cN τ 5 + q1 := rfl
      refine ⟨e1, f, by rw [h5]; omega, f2, f3, ?_⟩
      rcases f4 with f4 | ⟨u, g1, g2, g3⟩
      · exact Or.inl f4
      · exact Or.inr ⟨u, by rw [h5]; omega, g2, g3⟩
  · have g1 : ¬ nI (cN τ 5 + q1) ≤ nI 1999 := by rw [nI_leI (by omega) (by omega)]; exact hl
    have g2 : ¬ nI (cN τ 5 + q1) < nI 2000 := by rw [nI_ltI (by omega) (by omega)]; omega
    simp only [if_neg g1, if_neg g2]; exact xEq.thr hR rfl (Or.inr ⟨rfl, rfl⟩)
