theorem xb_l {α β : Type} (e : String) (f : α → String ⊕ β) : xbindE (.inl e) f = .inl e := rfl
theorem xb_r {α β : Type} (a : α) (f : α → String ⊕ β) : xbindE (.inr a) f = f a := rfl
theorem q_weight {σ : MT} {τ : CT} (hR : Rel σ τ) (hW : CW τ) (th : Int32) (a1 a2 : Int32) : xEq (wL τ (fX7_weight τ a1 a2)) ["java/lang/IndexOutOfBoundsException", "java/lang/IllegalArgumentException"] τ (some (fX8_weight σ th a1 a2).1) (fX8_weight σ th a1 a2).2.1 (fX8_weight σ th a1 a2).2.2 := by
  have w := hW.1
  obtain ⟨hN, hB, hM, hP, hS, hE, hO, hC, hZ, hA, hV, hw, hU, hY⟩ := id hR
  have hN34 := hN.2.2.2.2.2.2.2.1
  unfold fX7_weight fX8_weight
  rcases p_member hR.1 hW a1 with ⟨m1a, m1b⟩ | ⟨q1, h1, e1, t1, m1a, m1b⟩
  · simp only [m1a, m1b, if_pos n00, ite_self, xb_l]; exact xEq.thr hR rfl (Or.inl ⟨rfl, rfl⟩)
  simp only [m1a, m1b, if_neg n10, xb_r, t1]
  rcases p_year a2 with ⟨m2a, m2b⟩ | ⟨q2, h2, e2, t2, m2a, m2b⟩
  · simp only [m2a, m2b, if_pos n00, ite_self, xb_l]; exact xEq.thr hR rfl (Or.inr ⟨rfl, rfl⟩)
  simp only [m2a, m2b, if_neg n10, xb_r, t2]
  rw [e_shared hN hM hS hE hW h1 h2]
  exact xEq.ret rfl rfl hR
theorem q_weightAnew {σ : MT} {τ : CT} (hR : Rel σ τ) (hW : CW τ) (th : Int32) (a1 a2 : Int32) : xEq (wL τ (fX7_weightAnew τ a1 a2)) ["java/lang/IndexOutOfBoundsException", "java/lang/IllegalArgumentException"] τ (some (fX8_weightAnew σ th a1 a2).1) (fX8_weightAnew σ th a1 a2).2.1 (fX8_weightAnew σ th a1 a2).2.2 := by
  have w := hW.1
  obtain ⟨hN, hB, hM, hP, hS, hE, hO, hC, hZ, hA, hV, hw, hU, hY⟩ := id hR
  have hN34 := hN.2.2.2.2.2.2.2.1
  unfold fX7_weightAnew fX8_weightAnew
  rcases p_member hR.1 hW a1 with ⟨m1a, m1b⟩ | ⟨q1, h1, e1, t1, m1a, m1b⟩
  · simp only [m1a, m1b, if_pos n00, ite_self, xb_l]; exact xEq.thr hR rfl (Or.inl ⟨rfl, rfl⟩)
  simp only [m1a, m1b, if_neg n10, xb_r, t1]
  rcases p_year a2 with ⟨m2a, m2b⟩ | ⟨q2, h2, e2, t2, m2a, m2b⟩
  · simp only [m2a, m2b, if_pos n00, ite_self, xb_l]; exact xEq.thr hR rfl (Or.inr ⟨rfl, rfl⟩)
  simp only [m2a, m2b, if_neg n10, xb_r, t2]
  rw [e_shared hN hM hS hE hW h1 h2, e_anew hS hE hW a1 a2 h2 t2]
  exact xEq.ret rfl rfl hR
theorem q_due {σ : MT} {τ : CT} (hR : Rel σ τ) (hW : CW τ) (th : Int32) (a1 a2 : Int32) : xEq (wL τ (fX7_due τ a1 a2)) ["java/lang/IndexOutOfBoundsException", "java/lang/IllegalArgumentException"] τ (some (fX8_due σ th a1 a2).1) (fX8_due σ th a1 a2).2.1 (fX8_due σ th a1 a2).2.2 := by
  have w := hW.1
  obtain ⟨hN, hB, hM, hP, hS, hE, hO, hC, hZ, hA, hV, hw, hU, hY⟩ := id hR
  have hN34 := hN.2.2.2.2.2.2.2.1
  unfold fX7_due fX8_due
  rcases p_member hR.1 hW a1 with ⟨m1a, m1b⟩ | ⟨q1, h1, e1, t1, m1a, m1b⟩
  · simp only [m1a, m1b, if_pos n00, ite_self, xb_l]; exact xEq.thr hR rfl (Or.inl ⟨rfl, rfl⟩)
  simp only [m1a, m1b, if_neg n10, xb_r, t1]
  rcases p_year a2 with ⟨m2a, m2b⟩ | ⟨q2, h2, e2, t2, m2a, m2b⟩
  · simp only [m2a, m2b, if_pos n00, ite_self, xb_l]; exact xEq.thr hR rfl (Or.inr ⟨rfl, rfl⟩)
  simp only [m2a, m2b, if_neg n10, xb_r, t2]
  rw [e_due hR hW h1 h2]
  exact xEq.ret rfl rfl hR
theorem q_owes {σ : MT} {τ : CT} (hR : Rel σ τ) (hW : CW τ) (th : Int32) (a1 : Int32) : xEq (wL τ (fX7_owes τ a1)) ["java/lang/IndexOutOfBoundsException"] τ (some (fX8_owes σ th a1).1) (fX8_owes σ th a1).2.1 (fX8_owes σ th a1).2.2 := by
  have w := hW.1
  obtain ⟨hN, hB, hM, hP, hS, hE, hO, hC, hZ, hA, hV, hw, hU, hY⟩ := id hR
  have hN34 := hN.2.2.2.2.2.2.2.1
  unfold fX7_owes fX8_owes
  rcases p_member hR.1 hW a1 with ⟨m1a, m1b⟩ | ⟨q1, h1, e1, t1, m1a, m1b⟩
  · simp only [m1a, m1b, if_pos n00, ite_self, xb_l]; exact xEq.thr hR rfl (⟨rfl, rfl⟩)
  simp only [m1a, m1b, if_neg n10, xb_r, t1]
  rw [e_owes hR hW h1]
  exact xEq.ret rfl rfl hR
theorem q_cost {σ : MT} {τ : CT} (hR : Rel σ τ) (hW : CW τ) (th : Int32) (a1 : Int32) : xEq (wL τ (fX7_cost τ a1)) ["java/lang/IllegalArgumentException"] τ (some (fX8_cost σ th a1).1) (fX8_cost σ th a1).2.1 (fX8_cost σ th a1).2.2 := by
  have w := hW.1
  obtain ⟨hN, hB, hM, hP, hS, hE, hO, hC, hZ, hA, hV, hw, hU, hY⟩ := id hR
  have hN34 := hN.2.2.2.2.2.2.2.1
  unfold fX7_cost fX8_cost
  rcases p_year a1 with ⟨m1a, m1b⟩ | ⟨q1, h1, e1, t1, m1a, m1b⟩
  · simp only [m1a, m1b, if_pos n00, ite_self, xb_l]; exact xEq.thr hR rfl (⟨rfl, rfl⟩)
  simp only [m1a, m1b, if_neg n10, xb_r, t1]
  rw [e_costIn hR hW]
  exact xEq.ret rfl rfl hR
theorem q_isArrested {σ : MT} {τ : CT} (hR : Rel σ τ) (hW : CW τ) (th : Int32) (a1 : Int32) : xEq (wZ τ (fX7_isArrested τ a1)) ["java/lang/IndexOutOfBoundsException"] τ (some (if (fX8_isArrested σ th a1).1 = 0 then 0 else 1)) (fX8_isArrested σ th a1).2.1 (fX8_isArrested σ th a1).2.2 := by
  have w := hW.1
  obtain ⟨hN, hB, hM, hP, hS, hE, hO, hC, hZ, hA, hV, hw, hU, hY⟩ := id hR
  have hN34 := hN.2.2.2.2.2.2.2.1
  unfold fX7_isArrested fX8_isArrested
  rcases p_ship hR.1 hW a1 with ⟨m1a, m1b⟩ | ⟨q1, h1, e1, t1, m1a, m1b⟩
  · simp only [m1a, m1b, if_pos n00, ite_self, xb_l]; exact xEq.thr hR rfl (⟨rfl, rfl⟩)
  simp only [m1a, m1b, if_neg n10, xb_r, t1]
  rw [e_held hR hW h1]
  rcases zX7_isHeld τ q1 with h | h
  · rw [h]; simp only [if_pos (show (0 : Int32) = 0 from rfl)]; exact xEq.ret rfl rfl hR
  · rw [h]; simp only [if_neg (show ¬ (1 : Int32) = 0 by decide)]; exact xEq.ret rfl rfl hR
theorem q_isClosed {σ : MT} {τ : CT} (hR : Rel σ τ) (hW : CW τ) (th : Int32) (a1 : Int32) : xEq (wZ τ (fX7_isClosed τ a1)) ["java/lang/IllegalArgumentException"] τ (some (if (fX8_isClosed σ th a1).1 = 0 then 0 else 1)) (fX8_isClosed σ th a1).2.1 (fX8_isClosed σ th a1).2.2 := by
  have w := hW.1
  obtain ⟨hN, hB, hM, hP, hS, hE, hO, hC, hZ, hA, hV, hw, hU, hY⟩ := id hR
  have hN34 := hN.2.2.2.2.2.2.2.1
  unfold fX7_isClosed fX8_isClosed
  rcases p_year a1 with ⟨m1a, m1b⟩ | ⟨q1, h1, e1, t1, m1a, m1b⟩
  · simp only [m1a, m1b, if_pos n00, ite_self, xb_l]; exact xEq.thr hR rfl (⟨rfl, rfl⟩)
  simp only [m1a, m1b, if_neg n10, xb_r, t1]
  have hy := (hY q1 h1).2.2.1
  have hy2 := hW.2.2.2.2.2.2.2.2.2.2.2.2.1 q1
  by_cases hc : mN σ 34 ≤ q1
  · rw [hy.mpr hc]; simp only [if_pos (nI_le hc (show q1 < 2 ^ 31 by omega))]; exact xEq.ret rfl rfl hR
  · have hc2 : ¬ nI (mN σ 34) ≤ nI q1 := by rw [nI_leI (by omega) (by omega)]; exact hc
    simp only [if_neg hc2]
    rcases hy2 with h | h
    · exact absurd (hy.mp h) hc
    · rw [h]; exact xEq.ret rfl rfl hR
theorem q_result {σ : MT} {τ : CT} (hR : Rel σ τ) (hW : CW τ) (th : Int32) (a1 : Int32) : xEq (wL τ (fX7_result τ a1)) ["java/lang/IllegalArgumentException"] τ (some (fX8_result σ th a1).1) (fX8_result σ th a1).2.1 (fX8_result σ th a1).2.2 := by
  have w := hW.1
  obtain ⟨hN, hB, hM, hP, hS, hE, hO, hC, hZ, hA, hV, hw, hU, hY⟩ := id hR
  have hN34 := hN.2.2.2.2.2.2.2.1
  unfold fX7_result fX8_result
  rcases p_year a1 with ⟨m1a, m1b⟩ | ⟨q1, h1, e1, t1, m1a, m1b⟩
  · simp only [m1a, m1b, if_pos n00, ite_self, xb_l]; exact xEq.thr hR rfl (⟨rfl, rfl⟩)
  simp only [m1a, m1b, if_neg n10, xb_r, t1]
  have L : ∀ n k a, k + n = cN τ 0 → fX7_result_L9 τ a1 n k a = .inr (fX8_result_L35 σ th a1 n k (a - fX7_costIn τ (nI q1))).1 ∧ (fX8_result_L35 σ th a1 n k (a - fX7_costIn τ (nI q1))).2 = (σ, nI 0) := by
    intro n
    induction n with
    | zero => intro k a _; simp only [fX7_result_L9, fX8_result_L35, t1]; exact ⟨by first | rfl | trivial, by first | rfl | trivial⟩
    | succ n ih =>
      intro k a hk
      simp only [fX7_result_L9, fX8_result_L35, lseq, fX7_result_S9, fX8_result_S35]
      rw [t1, e_due hR hW (m := k) (by omega) h1]
      have e : a - fX7_costIn τ (nI q1) + fX7_dueOf τ k q1 = (a + fX7_dueOf τ k q1) - fX7_costIn τ (nI q1) := by rw [Int64.sub_eq_add_neg, Int64.sub_eq_add_neg, Int64.add_assoc, Int64.add_assoc, Int64.add_comm (-_)]
      rw [e]
      exact ih _ _ (by omega)
  rw [hN.2.1, e_costIn hR hW]
  obtain ⟨i1, i2⟩ := L (cN τ 0) 0 0 (by omega)
  have e0 : (0 : Int64) - fX7_costIn τ (nI q1) = -fX7_costIn τ (nI q1) := Int64.zero_sub _
  rw [e0] at i1 i2
  rw [i1, i2]
  exact xEq.ret rfl rfl hR
theorem q_ofClaim {σ : MT} {τ : CT} (hR : Rel σ τ) (hW : CW τ) (th : Int32) (a1 a2 : Int32) : xEq (wL τ (fX7_ofClaim τ a1 a2)) ["java/lang/IndexOutOfBoundsException", "java/lang/IllegalArgumentException"] τ (some (fX8_ofClaim σ th a1 a2).1) (fX8_ofClaim σ th a1 a2).2.1 (fX8_ofClaim σ th a1 a2).2.2 := by
  have w := hW.1
  obtain ⟨hN, hB, hM, hP, hS, hE, hO, hC, hZ, hA, hV, hw, hU, hY⟩ := id hR
  have hN34 := hN.2.2.2.2.2.2.2.1
  unfold fX7_ofClaim fX8_ofClaim
  rcases p_claim hR.1 hW a1 with ⟨m1a, m1b⟩ | ⟨q1, h1, e1, t1, m1a, m1b⟩
  · simp only [m1a, m1b, if_pos n00, ite_self, xb_l]; exact xEq.thr hR rfl (Or.inl ⟨rfl, rfl⟩)
  simp only [m1a, m1b, if_neg n10, xb_r, t1]
  rcases p_in (x := a2) (a := 0) (b := 5) (by first | decide | omega) (by first | decide | omega) with ⟨m2a, m2b⟩ | ⟨q2, g2, h2, e2, m2a, m2b⟩
  · simp only [m2a, m2b, if_pos n00, ite_self, xb_l]; exact xEq.thr hR rfl (Or.inr ⟨rfl, rfl⟩)
  have t2 : tn a2 = q2 := by rw [e2]; exact tn_nI (by omega)
  simp only [m2a, m2b, if_neg n10, xb_r, t2]
  obtain ⟨c1, c2, c3, c4, c5, c6, c7, c8, -⟩ := hC q1 h1
  have hev := hV _ (hW.2.2.2.2.1 q1 h1)
  obtain ⟨hcov, hc01⟩ := e_cov hR hW h1
  rw [c5, c3, c6, c7, hcov, e_counts hR hW h1, hev.2.1]
  by_cases g0 : q2 = 0
  · simp only [if_pos g0]; exact xEq.ret rfl rfl hR
  by_cases g1 : q2 = 1
  · simp only [if_neg g0, if_pos g1]; exact xEq.ret rfl rfl hR
  by_cases g2 : q2 = 2
  · simp only [if_neg g0, if_neg g1, if_pos g2]
    by_cases h : fX7_isCovered τ q1 = 0
    · simp only [if_pos h]; exact xEq.ret rfl rfl hR
    · simp only [if_neg h]; exact xEq.ret rfl rfl hR
  by_cases g3 : q2 = 3
  · simp only [if_neg g0, if_neg g1, if_neg g2, if_pos g3]
    by_cases h : cI τ 26 q1 = 0
    · simp only [if_pos h]; exact xEq.ret rfl rfl hR
    · simp only [if_neg h]; exact xEq.ret rfl rfl hR
  by_cases g4 : q2 = 4
  · simp only [if_neg g0, if_neg g1, if_neg g2, if_neg g3, if_pos g4]; exact xEq.ret rfl rfl hR
  · simp only [if_neg g0, if_neg g1, if_neg g2, if_neg g3, if_neg g4]
    by_cases h : fX7_isCovered τ q1 = 0
    · simp only [if_pos h]; exact xEq.ret rfl rfl hR
    · simp only [if_neg h]; exact xEq.ret rfl rfl hR
theorem q_ofEvent {σ : MT} {τ : CT} (hR : Rel σ τ) (hW : CW τ) (th : Int32) (a1 a2 : Int32) : xEq (wL τ (fX7_ofEvent τ a1 a2)) ["java/lang/IndexOutOfBoundsException", "java/lang/IllegalArgumentException"] τ (some (fX8_ofEvent σ th a1 a2).1) (fX8_ofEvent σ th a1 a2).2.1 (fX8_ofEvent σ th a1 a2).2.2 := by
  have w := hW.1
  obtain ⟨hN, hB, hM, hP, hS, hE, hO, hC, hZ, hA, hV, hw, hU, hY⟩ := id hR
  have hN34 := hN.2.2.2.2.2.2.2.1
  unfold fX7_ofEvent fX8_ofEvent
  rcases p_event hR.1 hW a1 with ⟨m1a, m1b⟩ | ⟨q1, h1, e1, t1, m1a, m1b⟩
  · simp only [m1a, m1b, if_pos n00, ite_self, xb_l]; exact xEq.thr hR rfl (Or.inl ⟨rfl, rfl⟩)
  simp only [m1a, m1b, if_neg n10, xb_r, t1]
  rcases p_in (x := a2) (a := 0) (b := 3) (by first | decide | omega) (by first | decide | omega) with ⟨m2a, m2b⟩ | ⟨q2, g2, h2, e2, m2a, m2b⟩
  · simp only [m2a, m2b, if_pos n00, ite_self, xb_l]; exact xEq.thr hR rfl (Or.inr ⟨rfl, rfl⟩)
  have t2 : tn a2 = q2 := by rw [e2]; exact tn_nI (by omega)
  simp only [m2a, m2b, if_neg n10, xb_r, t2]
  have L : ∀ n k a, k + n = cN τ 3 → fX8_ofEvent_L50 σ th a1 a2 n k (nI a) = fX8_ofEvent_L50 σ th a1 a2 0 (cN τ 3) (nI (a + (cCnt (cK τ 13) q1 (k + n) - cCnt (cK τ 13) q1 k))) ∧ cCnt (cK τ 13) q1 k ≤ cCnt (cK τ 13) q1 (k + n) := by
    intro n
    induction n with
    | zero => intro k a hk; rw [Nat.add_zero, Nat.sub_self, Nat.add_zero, show k = cN τ 3 by omega]; exact ⟨rfl, Nat.le_refl _⟩
    | succ n ih =>
      intro k a hk
      have e8 : fX8_ofEvent_L50 σ th a1 a2 (n + 1) k (nI a) = fX8_ofEvent_L50 σ th a1 a2 n (k + 1) (fX8_ofEvent_S50 σ th a1 a2 k (nI a)) := rfl
      have hk3 : k < cN τ 3 := by omega
      have hkev := hW.2.2.2.2.1 k hk3
      have s8 : fX8_ofEvent_S50 σ th a1 a2 k (nI a) = nI (a + if cK τ 13 k = q1 then 1 else 0) := by
        unfold fX8_ofEvent_S50
        rw [t1, (hC k hk3).2.2.1]
        by_cases h : cK τ 13 k = q1
        · rw [if_pos (congrArg nI h), if_pos h]; exact nI_add a 1
        · rw [if_neg (by rw [nI_eq (by omega) (by omega)]; exact h), if_neg h]; exact nI_add a 0
      have ec : cCnt (cK τ 13) q1 (k + 1) = cCnt (cK τ 13) q1 k + if cK τ 13 k = q1 then 1 else 0 := rfl
      obtain ⟨i1, i2⟩ := ih (k + 1) (a + if cK τ 13 k = q1 then 1 else 0) (by omega)
      rw [show k + 1 + n = k + (n + 1) by omega] at i1 i2
      rw [e8, s8, i1]
      refine ⟨?_, by omega⟩
      rw [show a + (if cK τ 13 k = q1 then 1 else 0) + (cCnt (cK τ 13) q1 (k + (n + 1)) - cCnt (cK τ 13) q1 (k + 1)) = a + (cCnt (cK τ 13) q1 (k + (n + 1)) - cCnt (cK τ 13) q1 k) by omega]
  have hl := (L (cN τ 3) 0 0 (by omega)).1
  rw [hN.2.2.2.2.1, hl]
  simp only [fX8_ofEvent_L50]
  obtain ⟨v1, v2, v3⟩ := hV q1 h1
  obtain ⟨z, -, z1, z2⟩ := e_costOf hR hW h1
  rw [t1, t2, e_bears hR hW h1, z1, z2, v1, v3, Nat.zero_add, show cCnt (cK τ 13) q1 0 = 0 from rfl, Nat.sub_zero, Nat.zero_add]
  by_cases g0 : q2 = 0
  · subst g0; simp only [if_pos n00, if_true]; exact xEq.ret rfl rfl hR
  rw [if_neg (show ¬ nI q2 = 0 from nI_ne0 (by omega) (by omega)), if_neg g0]
  by_cases g1 : q2 = 1
  · subst g1; simp only [if_true]; exact xEq.ret rfl rfl hR
  rw [if_neg (show ¬ nI q2 = nI 1 by rw [nI_eq (by omega) (by omega)]; exact g1), if_neg g1]
  by_cases g2 : q2 = 2
  · subst g2; simp only [if_true]; exact xEq.ret rfl rfl hR
  rw [if_neg (show ¬ nI q2 = nI 2 by rw [nI_eq (by omega) (by omega)]; exact g2), if_neg g2]
  exact xEq.ret rfl rfl hR
