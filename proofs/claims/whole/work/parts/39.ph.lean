theorem q_rate {σ : MT} {τ : CT} (hR : Rel σ τ) (hW : CW τ) (th : Int32) (a1 a2 a3 : Int32) : xEq (wIs (fX7_rate τ a1 a2 a3)) ["java/lang/IndexOutOfBoundsException", "java/lang/IllegalArgumentException", "java/lang/IllegalStateException"] τ (some (fX8_rate σ th a1 a2 a3).1.toInt64) (fX8_rate σ th a1 a2 a3).2.1 (fX8_rate σ th a1 a2 a3).2.2 := by
  have w := hW.1
  obtain ⟨hN, hB, hM, hP, hS, hE, hO, hC, hZ, hA, hV, hw, hU, hY⟩ := id hR
  have hN34 := hN.2.2.2.2.2.2.2.1
  unfold fX7_rate fX8_rate
  rcases p_member hR.1 hW a1 with ⟨m1a, m1b⟩ | ⟨q1, h1, e1, t1, m1a, m1b⟩
  · simp only [m1a, m1b, if_pos n00, ite_self, xb_l]; exact xEq.thr hR rfl (Or.inl ⟨rfl, rfl⟩)
  simp only [m1a, m1b, if_neg n10, xb_r, t1]
  rcases p_year a2 with ⟨m2a, m2b⟩ | ⟨q2, h2, e2, t2, m2a, m2b⟩
  · simp only [m2a, m2b, if_pos n00, ite_self, xb_l]; exact xEq.thr hR rfl (Or.inr (Or.inl ⟨rfl, rfl⟩))
  simp only [m2a, m2b, if_neg n10, xb_r, t2]
  rcases p_in (x := a3) (a := 10) (b := 500) (by first | decide | omega) (by first | decide | omega) with ⟨m3a, m3b⟩ | ⟨q3, g3, h3, e3, m3a, m3b⟩
  · simp only [m3a, m3b, if_pos n00, ite_self, xb_l]; exact xEq.thr hR rfl (Or.inr (Or.inl ⟨rfl, rfl⟩))
  have t3 : tn a3 = q3 := by rw [e3]; exact tn_nI (by omega)
  simp only [m3a, m3b, if_neg n10, xb_r, t3]
  obtain ⟨⟨r1, r2⟩, rf⟩ := (hM q1 (by omega) q2 h2).1 h1
  rcases p_open hY hN34 h2 with ⟨o1, o2, o3, o4⟩ | ⟨o1, o2, o3, o4⟩
  · simp only [o4, xb_r, if_pos o2]
    have key : ∀ v : Int32, ∀ q, 10 ≤ q → q ≤ 500 → v = nI q → RelM (mSI σ 3 (20 * q1 + q2) v) (cSM τ 0 q1 q2 v) := by
      intro v q g1 g2 g3 m hm y hy
      obtain ⟨k1, k2⟩ := hM m hm y hy
      refine ⟨fun hm2 => ?_, fun hm2 => ?_⟩
      · obtain ⟨⟨s1, s2⟩, s3⟩ := k1 hm2
        refine ⟨⟨?_, ?_⟩, s3⟩
        · show (if (3 : Nat) = 3 ∧ 20 * m + y = 20 * q1 + q2 then v else mI σ 3 (20 * m + y)) = (if (0 : Nat) = 0 ∧ m = q1 ∧ y = q2 then v else cM τ 0 m y)
          by_cases h : m = q1 ∧ y = q2
          · rw [if_pos ⟨rfl, by rw [h.1, h.2]⟩, if_pos ⟨rfl, h⟩]
          · rw [if_neg (fun z => h (by omega)), if_neg (fun z => h z.2)]; exact s1
        · show ∃ q, 10 ≤ q ∧ q ≤ 500 ∧ (if (0 : Nat) = 0 ∧ m = q1 ∧ y = q2 then v else cM τ 0 m y) = nI q
          by_cases h : m = q1 ∧ y = q2
          · exact ⟨q, g1, g2, (if_pos ⟨rfl, h⟩).trans g3⟩
          · rw [if_neg (fun z => h z.2)]; exact s2
      · obtain ⟨s1, s2⟩ := k2 hm2
        have h9 : cN τ 0 ≤ m := hm2
        exact ⟨(if_neg (fun z => by omega)).trans s1, s2⟩
    rcases rf with ⟨f1, f2, f3⟩ | ⟨f1, f2, f3⟩ | ⟨f1, f2, f3, f4⟩
    · rw [f1, f2, r1]
      simp only [if_pos (show (0 : Int32) = 0 from rfl), if_neg (show ¬ (0 : Int32) = nI 1 by decide)]
      refine xEq.ret rfl rfl ⟨hN, hB, ?_, hP, hS, hE, hO, hC, hZ, hA, hV, hw, hU, hY⟩
      · exact key _ q3 (by omega) (by omega) rfl
    · rw [f1, f2]
      simp only [if_neg (show ¬ (1 : Int32) = 0 by decide), if_pos (show (1 : Int32) = nI 1 from rfl)]
      exact xEq.thr hR rfl (Or.inr (Or.inr ⟨rfl, rfl⟩))
    · rw [f1, f2, r1]
      simp only [if_pos (show (0 : Int32) = 0 from rfl), if_neg (show ¬ (2 : Int32) = nI 1 by decide)]
      refine xEq.ret rfl rfl ⟨hN, hB, ?_, hP, hS, hE, hO, hC, hZ, hA, hV, hw, hU, hY⟩
      · exact key _ q3 (by omega) (by omega) rfl
  · simp only [o4, xb_l, if_neg o2, ite_self]; exact xEq.thr hR rfl (Or.inr (Or.inr ⟨rfl, rfl⟩))
theorem q_rule {σ : MT} {τ : CT} (hR : Rel σ τ) (hW : CW τ) (th : Int32) (a1 a2 a3 a4 : Int32) : xEq (wVs (fX7_rule τ a1 a2 a3 a4)) ["java/lang/IllegalArgumentException", "java/lang/IllegalStateException"] τ none (fX8_rule σ th a1 a2 a3 a4).1 (fX8_rule σ th a1 a2 a3 a4).2 := by
  have w := hW.1
  obtain ⟨hN, hB, hM, hP, hS, hE, hO, hC, hZ, hA, hV, hw, hU, hY⟩ := id hR
  have hN34 := hN.2.2.2.2.2.2.2.1
  unfold fX7_rule fX8_rule
  rcases p_kind a1 with ⟨m1a, m1b⟩ | ⟨q1, h1, e1, t1, m1a, m1b⟩
  · simp only [m1a, m1b, if_pos n00, ite_self, xb_l]; exact xEq.thr hR rfl (Or.inl ⟨rfl, rfl⟩)
  simp only [m1a, m1b, if_neg n10, xb_r, t1]
  rcases p_year a2 with ⟨m2a, m2b⟩ | ⟨q2, h2, e2, t2, m2a, m2b⟩
  · simp only [m2a, m2b, if_pos n00, ite_self, xb_l]; exact xEq.thr hR rfl (Or.inl ⟨rfl, rfl⟩)
  simp only [m2a, m2b, if_neg n10, xb_r, t2]
  rcases p_in (x := a3) (a := 0) (b := 1000000) (by first | decide | omega) (by first | decide | omega) with ⟨m3a, m3b⟩ | ⟨q3, g3, h3, e3, m3a, m3b⟩
  · simp only [m3a, m3b, if_pos n00, ite_self, xb_l]; exact xEq.thr hR rfl (Or.inl ⟨rfl, rfl⟩)
  have t3 : tn a3 = q3 := by rw [e3]; exact tn_nI (by omega)
  simp only [m3a, m3b, if_neg n10, xb_r, t3]
  rcases p_in (x := a4) (a := 0) (b := 10000000) (by first | decide | omega) (by first | decide | omega) with ⟨m4a, m4b⟩ | ⟨q4, g4, h4, e4, m4a, m4b⟩
  · simp only [m4a, m4b, if_pos n00, ite_self, xb_l]; exact xEq.thr hR rfl (Or.inl ⟨rfl, rfl⟩)
  have t4 : tn a4 = q4 := by rw [e4]; exact tn_nI (by omega)
  simp only [m4a, m4b, if_neg n10, xb_r, t4]
  rcases p_open hY hN34 h2 with ⟨o1, o2, o3, o4⟩ | ⟨o1, o2, o3, o4⟩
  · simp only [o4, xb_r, if_pos o2]
    refine xEq.ret rfl rfl ⟨hN, hB, hM, hP, hS, hE, hO, hC, hZ, hA, hV, hw, ?_, hY⟩
    · intro i hi
      have ei : q1 * 20 + q2 = 20 * q1 + q2 := by omega
      by_cases h : i = 20 * q1 + q2
      · refine Or.inr ⟨q3, q4, by omega, by omega, ?_, ?_, ?_, ?_⟩
        · exact if_pos ⟨rfl, h⟩
        · exact if_pos ⟨rfl, by rw [ei]; exact h⟩
        · exact if_pos ⟨rfl, h⟩
        · exact if_pos ⟨rfl, by rw [ei]; exact h⟩
      · have hn : ¬ i = q1 * 20 + q2 := by omega
        rcases hU i hi with ⟨u1, u2⟩ | ⟨d, l, u1, u2, u3, u4, u5, u6⟩
        · exact Or.inl ⟨(if_neg (fun z => h z.2)).trans u1, (if_neg (fun z => hn z.2)).trans u2⟩
        · exact Or.inr ⟨d, l, u1, u2, (if_neg (fun z => h z.2)).trans u3, (if_neg (fun z => hn z.2)).trans u4, (if_neg (fun z => h z.2)).trans u5, (if_neg (fun z => hn z.2)).trans u6⟩
  · simp only [o4, xb_l, if_neg o2]; exact xEq.thr hR rfl (Or.inr ⟨rfl, rfl⟩)
theorem q_pool {σ : MT} {τ : CT} (hR : Rel σ τ) (hW : CW τ) (th : Int32) (a1 a2 a3 a4 : Int32) : xEq (wVs (fX7_pool τ a1 a2 a3 a4)) ["java/lang/IllegalArgumentException", "java/lang/IllegalStateException"] τ none (fX8_pool σ th a1 a2 a3 a4).1 (fX8_pool σ th a1 a2 a3 a4).2 := by
  have w := hW.1
  obtain ⟨hN, hB, hM, hP, hS, hE, hO, hC, hZ, hA, hV, hw, hU, hY⟩ := id hR
  have hN34 := hN.2.2.2.2.2.2.2.1
  unfold fX7_pool fX8_pool
  rcases p_year a1 with ⟨m1a, m1b⟩ | ⟨q1, h1, e1, t1, m1a, m1b⟩
  · simp only [m1a, m1b, if_pos n00, ite_self, xb_l]; exact xEq.thr hR rfl (Or.inl ⟨rfl, rfl⟩)
  simp only [m1a, m1b, if_neg n10, xb_r, t1]
  rcases p_in (x := a2) (a := 0) (b := 10000000) (by first | decide | omega) (by first | decide | omega) with ⟨m2a, m2b⟩ | ⟨q2, g2, h2, e2, m2a, m2b⟩
  · simp only [m2a, m2b, if_pos n00, ite_self, xb_l]; exact xEq.thr hR rfl (Or.inl ⟨rfl, rfl⟩)
  have t2 : tn a2 = q2 := by rw [e2]; exact tn_nI (by omega)
  simp only [m2a, m2b, if_neg n10, xb_r, t2]
  rcases p_in (x := a3) (a := q2) (b := 100000000) (by first | decide | omega) (by first | decide | omega) with ⟨m3a, m3b⟩ | ⟨q3, g3, h3, e3, m3a, m3b⟩
  · simp only [m3a, m3b, if_pos n00, ite_self, xb_l]; exact xEq.thr hR rfl (Or.inl ⟨rfl, rfl⟩)
  have t3 : tn a3 = q3 := by rw [e3]; exact tn_nI (by omega)
  simp only [m3a, m3b, if_neg n10, xb_r, t3]
  rcases p_in (x := a4) (a := 0) (b := 100) (by first | decide | omega) (by first | decide | omega) with ⟨m4a, m4b⟩ | ⟨q4, g4, h4, e4, m4a, m4b⟩
  · simp only [m4a, m4b, if_pos n00, ite_self, xb_l]; exact xEq.thr hR rfl (Or.inl ⟨rfl, rfl⟩)
  have t4 : tn a4 = q4 := by rw [e4]; exact tn_nI (by omega)
  simp only [m4a, m4b, if_neg n10, xb_r, t4]
  rcases p_open hY hN34 h1 with ⟨o1, o2, o3, o4⟩ | ⟨o1, o2, o3, o4⟩
  · simp only [o4, xb_r, if_pos o2]
    rw [e3]
    refine xEq.ret rfl rfl ⟨hN, hB, hM, hP, hS, hE, hO, hC, hZ, hA, hV, hw, hU, ?_⟩
    · intro y hy
      obtain ⟨y1, y2, y3, y4⟩ := hY y hy
      refine ⟨y1, y2, y3, ?_⟩
      by_cases h : y = q1
      · exact Or.inr ⟨if_pos ⟨rfl, h⟩, q2, q3, by omega, by omega, if_pos ⟨rfl, h⟩, if_pos ⟨rfl, h⟩, if_pos ⟨rfl, h⟩, if_pos ⟨rfl, h⟩, (if_pos ⟨rfl, h⟩ : (if (19 : Nat) = 19 ∧ y = q1 then nI q4 else mI σ 19 y) = nI q4).trans (if_pos ⟨rfl, h⟩ : (if (37 : Nat) = 37 ∧ y = q1 then nI q4 else cI τ 37 y) = nI q4).symm⟩
      · rcases y4 with ⟨p1, p2⟩ | ⟨p1, r, b, r1, b1, p2, p3, p4, p5, p6⟩
        · exact Or.inl ⟨(if_neg (fun z => h z.2)).trans p1, (if_neg (fun z => h z.2)).trans p2⟩
        · refine Or.inr ⟨(if_neg (fun z => h z.2)).trans p1, r, b, r1, b1, (if_neg (fun z => h z.2)).trans p2, (if_neg (fun z => h z.2)).trans p3, (if_neg (fun z => h z.2)).trans p4, (if_neg (fun z => h z.2)).trans p5, ?_⟩
          show (if (19 : Nat) = 19 ∧ y = q1 then nI q4 else mI σ 19 y) = (if (37 : Nat) = 37 ∧ y = q1 then nI q4 else cI τ 37 y)
          rw [if_neg (fun z => h z.2), if_neg (fun z => h z.2)]; exact p6
  · simp only [o4, xb_l, if_neg o2]; exact xEq.thr hR rfl (Or.inr ⟨rfl, rfl⟩)
theorem adv_s (τ : CT) (a1 a2 : Int32) (n k : Nat) : fX7_advance_L18 τ a1 a2 (n + 1) k = if cM τ 1 k (tn a1) = 0 then fX7_advance_L18 τ a1 a2 n (k + 1) else .inl ISE := by
  show lbind (fX7_advance_S18 τ a1 a2 k) (fun q => fX7_advance_L18 τ a1 a2 n (k + 1)) = _
  unfold fX7_advance_S18
  repeat' split
  all_goals rfl
theorem e_hasRel {σ : MT} {τ : CT} (hN : RelN σ τ) (hM : RelM σ τ) (hW : CW τ) (a1 a2 : Int32) {y : Nat} (hy : y < 20) (ht : tn a1 = y) : (fX8_hasReleased σ y = nI 0 ∧ fX7_advance_L18 τ a1 a2 (cN τ 0) 0 = .inr ((cI τ 31 y), (cSI τ 31 y (nI (tn a2))))) ∨ (fX8_hasReleased σ y = nI 1 ∧ fX7_advance_L18 τ a1 a2 (cN τ 0) 0 = .inl ISE) := by
  have w := hW.1
  have L1 : ∀ n k, fX8_hasReleased_L4 σ y n k (nI 1) = nI 1 := by
    intro n
    induction n with
    | zero => intro k; rfl
    | succ n ih => intro k; simp only [fX8_hasReleased_L4, lseq, fX8_hasReleased_S4]; rw [if_neg n10]; exact ih _
  have L : ∀ n k, k + n = cN τ 0 → (fX8_hasReleased_L4 σ y n k (nI 0) = nI 0 ∧ fX7_advance_L18 τ a1 a2 n k = .inr ((cI τ 31 y), (cSI τ 31 y (nI (tn a2))))) ∨ (fX8_hasReleased_L4 σ y n k (nI 0) = nI 1 ∧ fX7_advance_L18 τ a1 a2 n k = .inl ISE) := by
    intro n
    induction n with
    | zero => intro k _; simp only [fX7_advance_L18, ht]; exact Or.inl ⟨rfl, by first | rfl | trivial⟩
    | succ n ih =>
      intro k hk
      have e8 : fX8_hasReleased_L4 σ y (n + 1) k (nI 0) = fX8_hasReleased_L4 σ y n (k + 1) (fX8_hasReleased_S4 σ y k (nI 0)) := rfl
      rw [e8, adv_s, ht]
      unfold fX8_hasReleased_S4
      rw [if_pos n00]
      obtain ⟨-, rf⟩ := (hM k (by omega) y hy).1 (by omega)
      rcases rf with ⟨f1, f2, f3⟩ | ⟨f1, f2, f3⟩ | ⟨f1, f2, f3, f4⟩
      · rw [f1, f2, if_neg (by decide), if_pos rfl]; exact ih _ (by omega)
      · rw [f1, f2, if_pos (by decide), if_neg (by decide)]; exact Or.inr ⟨L1 _ _, rfl⟩
      · rw [f1, f2, if_neg (by decide), if_pos rfl]; exact ih _ (by omega)
  unfold fX8_hasReleased
  rw [hN.2.1]
  exact L _ 0 (by omega)
theorem q_advance {σ : MT} {τ : CT} (hR : Rel σ τ) (hW : CW τ) (th : Int32) (a1 a2 : Int32) : xEq (wIs (fX7_advance τ a1 a2)) ["java/lang/IllegalArgumentException", "java/lang/IllegalStateException"] τ (some (fX8_advance σ th a1 a2).1.toInt64) (fX8_advance σ th a1 a2).2.1 (fX8_advance σ th a1 a2).2.2 := by
  have w := hW.1
  obtain ⟨hN, hB, hM, hP, hS, hE, hO, hC, hZ, hA, hV, hw, hU, hY⟩ := id hR
  have hN34 := hN.2.2.2.2.2.2.2.1
  unfold fX7_advance fX8_advance
  rcases p_year a1 with ⟨m1a, m1b⟩ | ⟨q1, h1, e1, t1, m1a, m1b⟩
  · simp only [m1a, m1b, if_pos n00, ite_self, xb_l]; exact xEq.thr hR rfl (Or.inl ⟨rfl, rfl⟩)
  simp only [m1a, m1b, if_neg n10, xb_r, t1]
  rcases p_in (x := a2) (a := 0) (b := 1000000) (by first | decide | omega) (by first | decide | omega) with ⟨m2a, m2b⟩ | ⟨q2, g2, h2, e2, m2a, m2b⟩
  · simp only [m2a, m2b, if_pos n00, ite_self, xb_l]; exact xEq.thr hR rfl (Or.inl ⟨rfl, rfl⟩)
  have t2 : tn a2 = q2 := by rw [e2]; exact tn_nI (by omega)
  simp only [m2a, m2b, if_neg n10, xb_r, t2]
  rcases p_open hY hN34 h1 with ⟨o1, o2, o3, o4⟩ | ⟨o1, o2, o3, o4⟩
  · simp only [o4, xb_r, if_neg o3]
    rcases e_hasRel hN hM hW a1 a2 h1 t1 with ⟨g1, g2⟩ | ⟨g1, g2⟩
    · rw [g1, g2, t2, (hY q1 h1).1]
      simp only [if_pos n00]
      refine xEq.ret rfl rfl ⟨hN, hB, hM, hP, hS, hE, hO, hC, hZ, hA, hV, hw, hU, ?_⟩
      · intro y hy
        obtain ⟨y1, y2, y3, y4⟩ := hY y hy
        refine ⟨?_, y2, y3, y4⟩
        show (if (32 : Nat) = 32 ∧ y = q1 then nI q2 else mI σ 32 y) = (if (31 : Nat) = 31 ∧ y = q1 then nI q2 else cI τ 31 y)
        by_cases h : y = q1
        · rw [if_pos ⟨rfl, h⟩, if_pos ⟨rfl, h⟩]
        · rw [if_neg (fun z => h z.2), if_neg (fun z => h z.2)]; exact y1
    · rw [g1, g2]
      simp only [if_neg n10]; exact xEq.thr hR rfl (Or.inr ⟨rfl, rfl⟩)
  · simp only [o4, xb_l, if_pos o3]; exact xEq.thr hR rfl (Or.inr ⟨rfl, rfl⟩)
theorem q_further {σ : MT} {τ : CT} (hR : Rel σ τ) (hW : CW τ) (th : Int32) (a1 a2 : Int32) : xEq (wIs (fX7_further τ a1 a2)) ["java/lang/IllegalArgumentException", "java/lang/IllegalStateException"] τ (some (fX8_further σ th a1 a2).1.toInt64) (fX8_further σ th a1 a2).2.1 (fX8_further σ th a1 a2).2.2 := by
  have w := hW.1
  obtain ⟨hN, hB, hM, hP, hS, hE, hO, hC, hZ, hA, hV, hw, hU, hY⟩ := id hR
  have hN34 := hN.2.2.2.2.2.2.2.1
  unfold fX7_further fX8_further
  rcases p_year a1 with ⟨m1a, m1b⟩ | ⟨q1, h1, e1, t1, m1a, m1b⟩
  · simp only [m1a, m1b, if_pos n00, ite_self, xb_l]; exact xEq.thr hR rfl (Or.inl ⟨rfl, rfl⟩)
  simp only [m1a, m1b, if_neg n10, xb_r, t1]
  rcases p_in (x := a2) (a := 1) (b := 200) (by first | decide | omega) (by first | decide | omega) with ⟨m2a, m2b⟩ | ⟨q2, g2, h2, e2, m2a, m2b⟩
  · simp only [m2a, m2b, if_pos n00, ite_self, xb_l]; exact xEq.thr hR rfl (Or.inl ⟨rfl, rfl⟩)
  have t2 : tn a2 = q2 := by rw [e2]; exact tn_nI (by omega)
  simp only [m2a, m2b, if_neg n10, xb_r, t2]
  rcases p_open hY hN34 h1 with ⟨o1, o2, o3, o4⟩ | ⟨o1, o2, o3, o4⟩
  · simp only [o4, xb_r, if_neg o3]
    have hv : mI (mSI σ 33 q1 (mI σ 33 q1 + nI q2)) 33 q1 = mI σ 33 q1 + nI q2 := if_pos ⟨rfl, rfl⟩
    rw [hv, (hY q1 h1).2.1]
    by_cases hl : cI τ 32 q1 + nI q2 ≤ nI 1000
    · simp only [if_pos hl]
      refine xEq.ret rfl rfl ⟨hN, hB, hM, hP, hS, hE, hO, hC, hZ, hA, hV, hw, hU, ?_⟩
      · intro y hy
        obtain ⟨y1, y2, y3, y4⟩ := hY y hy
        refine ⟨y1, ?_, y3, y4⟩
        show (if (33 : Nat) = 33 ∧ y = q1 then cI τ 32 q1 + nI q2 else mI σ 33 y) = (if (32 : Nat) = 32 ∧ y = q1 then cI τ 32 q1 + nI q2 else cI τ 32 y)
        by_cases h : y = q1
        · rw [if_pos ⟨rfl, h⟩, if_pos ⟨rfl, h⟩]
        · rw [if_neg (fun z => h z.2), if_neg (fun z => h z.2)]; exact y2
    · simp only [if_neg hl]; exact xEq.thr hR rfl (Or.inr ⟨rfl, rfl⟩)
  · simp only [o4, xb_l, if_pos o3]; exact xEq.thr hR rfl (Or.inr ⟨rfl, rfl⟩)
theorem q_stop {σ : MT} {τ : CT} (hR : Rel σ τ) (hW : CW τ) (th : Int32) (a1 a2 : Int32) : xEq (wIs (fX7_stop τ a1 a2)) ["java/lang/IndexOutOfBoundsException", "java/lang/IllegalArgumentException", "java/lang/IllegalStateException"] τ (some (fX8_stop σ th a1 a2).1.toInt64) (fX8_stop σ th a1 a2).2.1 (fX8_stop σ th a1 a2).2.2 := by
  have w := hW.1
  obtain ⟨hN, hB, hM, hP, hS, hE, hO, hC, hZ, hA, hV, hw, hU, hY⟩ := id hR
  have hN34 := hN.2.2.2.2.2.2.2.1
  unfold fX7_stop fX8_stop
  rcases p_member hR.1 hW a1 with ⟨m1a, m1b⟩ | ⟨q1, h1, e1, t1, m1a, m1b⟩
  · simp only [m1a, m1b, if_pos n00, ite_self, xb_l]; exact xEq.thr hR rfl (Or.inl ⟨rfl, rfl⟩)
  simp only [m1a, m1b, if_neg n10, xb_r, t1]
  rw [hN.1]
  rcases p_in (x := a2) (a := 0) (b := cN τ 5) (by decide) (by omega) with ⟨g1, g2⟩ | ⟨q2, d1, d2, d3, g1, g2⟩
  · simp only [g1, g2, if_pos n00, xb_l]; exact xEq.thr hR rfl (Or.inr (Or.inl ⟨rfl, rfl⟩))
  simp only [g1, g2, if_neg n10, xb_r]
  rw [e_owes hR hW h1, ((hP q1 (by omega)).1 h1).2]
  by_cases hl : (0 : Int64) < fX7_owedBy τ q1
  · simp only [if_pos hl]
    refine xEq.ret rfl rfl ⟨hN, hB, hM, ?_, hS, hE, hO, hC, hZ, hA, hV, hw, hU, hY⟩
    · intro m hm
      obtain ⟨k1, k2⟩ := hP m hm
      refine ⟨fun h9 => ⟨(k1 h9).1, ?_⟩, k2⟩
      show (if (5 : Nat) = 5 ∧ m = q1 then nI (tn a2) else mI σ 5 m) = (if (20 : Nat) = 20 ∧ m = q1 then nI (tn a2) else cI τ 20 m)
      by_cases h : m = q1
      · rw [if_pos ⟨rfl, h⟩, if_pos ⟨rfl, h⟩]
      · rw [if_neg (fun z => h z.2), if_neg (fun z => h z.2)]; exact (k1 h9).2
  · simp only [if_neg hl]; exact xEq.thr hR rfl (Or.inr (Or.inr ⟨rfl, rfl⟩))
theorem q_pay {σ : MT} {τ : CT} (hR : Rel σ τ) (hW : CW τ) (th : Int32) (a1 a2 : Int32) : xEq (wLs (fX7_pay τ a1 a2)) ["java/lang/IndexOutOfBoundsException", "java/lang/IllegalArgumentException"] τ (some (fX8_pay σ th a1 a2).1) (fX8_pay σ th a1 a2).2.1 (fX8_pay σ th a1 a2).2.2 := by
  have w := hW.1
  obtain ⟨hN, hB, hM, hP, hS, hE, hO, hC, hZ, hA, hV, hw, hU, hY⟩ := id hR
  have hN34 := hN.2.2.2.2.2.2.2.1
  unfold fX7_pay fX8_pay
  rcases p_member hR.1 hW a1 with ⟨m1a, m1b⟩ | ⟨q1, h1, e1, t1, m1a, m1b⟩
  · simp only [m1a, m1b, if_pos n00, ite_self, xb_l]; exact xEq.thr hR rfl (Or.inl ⟨rfl, rfl⟩)
  simp only [m1a, m1b, if_neg n10, xb_r, t1]
  rcases p_in (x := a2) (a := 1) (b := 1000000000) (by first | decide | omega) (by first | decide | omega) with ⟨m2a, m2b⟩ | ⟨q2, g2, h2, e2, m2a, m2b⟩
  · simp only [m2a, m2b, if_pos n00, ite_self, xb_l]; exact xEq.thr hR rfl (Or.inr ⟨rfl, rfl⟩)
  have t2 : tn a2 = q2 := by rw [e2]; exact tn_nI (by omega)
  simp only [m2a, m2b, if_neg n10, xb_r, t2]
  have hPv : mL σ 4 q1 = cL τ 20 q1 := ((hP q1 (by omega)).1 h1).1
  have hst : mI σ 5 q1 = cI τ 20 q1 := ((hP q1 (by omega)).1 h1).2
  have hP1 : RelP (mSL σ 4 q1 (mL σ 4 q1 + (nI q2).toInt64)) (cSL τ 20 q1 (cL τ 20 q1 + (nI q2).toInt64)) := by
    intro m hm
    obtain ⟨k1, k2⟩ := hP m hm
    refine ⟨fun h9 => ⟨?_, (k1 h9).2⟩, fun h9 => ?_⟩
    · show (if (4 : Nat) = 4 ∧ m = q1 then mL σ 4 q1 + (nI q2).toInt64 else mL σ 4 m) = (if (20 : Nat) = 20 ∧ m = q1 then cL τ 20 q1 + (nI q2).toInt64 else cL τ 20 m)
      by_cases h : m = q1
      · rw [if_pos ⟨rfl, h⟩, if_pos ⟨rfl, h⟩, hPv]
      · rw [if_neg (fun z => h z.2), if_neg (fun z => h z.2)]; exact (k1 h9).1
    · have h7 : cN τ 0 ≤ m := h9
      exact (if_neg (fun z => by omega)).trans (k2 h9)
  have hR1 : Rel (mSL σ 4 q1 (mL σ 4 q1 + (nI q2).toInt64)) (cSL τ 20 q1 (cL τ 20 q1 + (nI q2).toInt64)) := ⟨hN, hB, hM, hP1, hS, hE, hO, hC, hZ, hA, hV, hw, hU, hY⟩
  have hW1 : CW (cSL τ 20 q1 (cL τ 20 q1 + (nI q2).toInt64)) := hW.sL 20 q1 _
  rw [e_owes hR1 hW1 h1]
  by_cases hl : (0 : Int64) < fX7_owedBy (cSL τ 20 q1 (cL τ 20 q1 + (nI q2).toInt64)) q1
  · have hl2 : ¬ fX7_owedBy (cSL τ 20 q1 (cL τ 20 q1 + (nI q2).toInt64)) q1 ≤ (0 : Int64) := fun z => by rw [Int64.lt_iff_toInt_lt] at hl; rw [Int64.le_iff_toInt_le] at z; omega
    simp only [if_pos hl, if_neg hl2]
    refine xEq.ret rfl rfl ⟨hN, hB, hM, ?_, hS, hE, hO, hC, hZ, hA, hV, hw, hU, hY⟩
    intro m hm
    obtain ⟨k1, k2⟩ := hP1 m hm
    refine ⟨fun h9 => ⟨(k1 h9).1, ?_⟩, k2⟩
    show (if (5 : Nat) = 5 ∧ m = q1 then mI σ 5 q1 else mI σ 5 m) = cI τ 20 m
    by_cases h : m = q1
    · rw [if_pos ⟨rfl, h⟩, h]; exact hst
    · rw [if_neg (fun z => h z.2)]; exact (k1 h9).2
  · have hl2 : fX7_owedBy (cSL τ 20 q1 (cL τ 20 q1 + (nI q2).toInt64)) q1 ≤ (0 : Int64) := by rw [Int64.lt_iff_toInt_lt] at hl; rw [Int64.le_iff_toInt_le]; omega
    simp only [if_neg hl, if_pos hl2]
    refine xEq.ret rfl rfl ⟨hN, hB, hM, ?_, hS, hE, hO, hC, hZ, hA, hV, hw, hU, hY⟩
    intro m hm
    obtain ⟨k1, k2⟩ := hP1 m hm
    refine ⟨fun h9 => ⟨(k1 h9).1, ?_⟩, k2⟩
    show (if (5 : Nat) = 5 ∧ m = q1 then -1 else mI σ 5 m) = (if (20 : Nat) = 20 ∧ m = q1 then -1 else cI τ 20 m)
    by_cases h : m = q1
    · rw [if_pos ⟨rfl, h⟩, if_pos ⟨rfl, h⟩]
    · rw [if_neg (fun z => h z.2), if_neg (fun z => h z.2)]; exact (k1 h9).2
theorem q_arrest {σ : MT} {τ : CT} (hR : Rel σ τ) (hW : CW τ) (th : Int32) (a1 a2 : Int32) : xEq (wZs (fX7_arrest τ a1 a2)) ["java/lang/IndexOutOfBoundsException", "java/lang/IllegalStateException"] τ (some (if (fX8_arrest σ th a1 a2).1 = 0 then 0 else 1)) (fX8_arrest σ th a1 a2).2.1 (fX8_arrest σ th a1 a2).2.2 := by
  have w := hW.1
  obtain ⟨hN, hB, hM, hP, hS, hE, hO, hC, hZ, hA, hV, hw, hU, hY⟩ := id hR
  have hN34 := hN.2.2.2.2.2.2.2.1
  unfold fX7_arrest fX8_arrest
  rcases p_ship hR.1 hW a1 with ⟨m1a, m1b⟩ | ⟨q1, h1, e1, t1, m1a, m1b⟩
  · simp only [m1a, m1b, if_pos n00, ite_self, xb_l]; exact xEq.thr hR rfl (Or.inl ⟨rfl, rfl⟩)
  simp only [m1a, m1b, if_neg n10, xb_r, t1]
  rcases p_claim hR.1 hW a2 with ⟨m2a, m2b⟩ | ⟨q2, h2, e2, t2, m2a, m2b⟩
  · simp only [m2a, m2b, if_pos n00, ite_self, xb_l]; exact xEq.thr hR rfl (Or.inl ⟨rfl, rfl⟩)
  simp only [m2a, m2b, if_neg n10, xb_r, t2]
  obtain ⟨c1, c2, c3, c4, c5, c6, c7, c8, -⟩ := hC q2 h2
  have hs2 := hW.2.2.2.1 q2 h2
  have ho1 := hW.2.1 q1 h1
  have ho2 := hW.2.1 _ hs2
  rw [(hS q1 h1).1, c1, (hS _ hs2).1, c5, c6, c7, e_held hR hW h1]
  by_cases g1 : cK τ 10 q1 = cK τ 10 (cK τ 12 q2)
  · simp only [if_pos g1, if_pos (congrArg nI g1)]
    by_cases g2 : cI τ 26 q2 = 0
    · simp only [if_pos g2]
      by_cases g3 : cI τ 24 q2 ≤ cI τ 25 q2
      · have e : fX0_holdsShips τ q2 = nI 0 := by unfold fX0_holdsShips; rw [if_pos g2, if_pos g3]
        rw [e]
        simp only [if_pos g3, if_pos n00]; exact xEq.thr hR rfl (Or.inr ⟨rfl, rfl⟩)
      · have e : fX0_holdsShips τ q2 = nI 1 := by unfold fX0_holdsShips; rw [if_pos g2, if_neg g3]
        rw [e]
        simp only [if_neg g3, if_neg n10]
        have hA1 : RelA (mSI σ 36 (60 * q1 + q2) (nI 1)) (cSL τ 21 q1 (cL τ 21 q1 ||| ((1 : Int64) <<< ((nI q2).toInt64 &&& 63)))) := by
          intro s hs c hc
          obtain ⟨k1, k2⟩ := hA s hs c hc
          refine ⟨fun h9 => ?_, fun h9 => ?_⟩
          · show (if (36 : Nat) = 36 ∧ 60 * s + c = 60 * q1 + q2 then nI 1 else mI σ 36 (60 * s + c)) = 0 ↔ abit (if (21 : Nat) = 21 ∧ s = q1 then (cL τ 21 q1 ||| ((1 : Int64) <<< ((nI q2).toInt64 &&& 63))) else cL τ 21 s) c = false
            by_cases h : s = q1
            · rw [if_pos (show (21 : Nat) = 21 ∧ s = q1 from ⟨rfl, h⟩), e_set _ (by omega) hc, ← h]
              by_cases h2 : c = q2
              · rw [if_pos ⟨rfl, by rw [h2]⟩, h2]
                simp [n10]
              · rw [if_neg (fun z => h2 (by omega)), k1 h9]
                simp [h2]
            · rw [if_neg (fun z => h (by omega)), if_neg (fun z => h z.2)]; exact k1 h9
          · have h7 : cN τ 1 ≤ s := h9
            exact (if_neg (fun z => by omega)).trans (k2 h9)
        have hB1 : RelB (mSI σ 36 (60 * q1 + q2) (nI 1)) := by
          obtain ⟨b1, b2, b3, b4⟩ := hB
          refine ⟨b1, b2, b3, ?_⟩
          intro k
          show (if (36 : Nat) = 36 ∧ k = 60 * q1 + q2 then nI 1 else mI σ 36 k) = 0 ∨ (if (36 : Nat) = 36 ∧ k = 60 * q1 + q2 then nI 1 else mI σ 36 k) = 1
          by_cases h : k = 60 * q1 + q2
          · rw [if_pos ⟨rfl, h⟩]; exact Or.inr rfl
          · rw [if_neg (fun z => h z.2)]; exact b4 k
        rcases zX7_isHeld τ q1 with h | h
        · rw [h]; simp only [if_pos (show (0 : Int32) = 0 from rfl)]
          exact xEq.ret rfl rfl ⟨hN, hB1, hM, hP, hS, hE, hO, hC, hZ, hA1, hV, hw, hU, hY⟩
        · rw [h]; simp only [if_neg (show ¬ (1 : Int32) = 0 by decide)]
          exact xEq.ret rfl rfl ⟨hN, hB1, hM, hP, hS, hE, hO, hC, hZ, hA1, hV, hw, hU, hY⟩
    · have e : fX0_holdsShips τ q2 = nI 0 := by unfold fX0_holdsShips; rw [if_neg g2]
      rw [e]
      simp only [if_neg g2, if_pos n00]; exact xEq.thr hR rfl (Or.inr ⟨rfl, rfl⟩)
  · have g1' : ¬ nI (cK τ 10 q1) = nI (cK τ 10 (cK τ 12 q2)) := by rw [nI_eq (by omega) (by omega)]; exact g1
    simp only [if_neg g1, if_neg g1']; exact xEq.thr hR rfl (Or.inr ⟨rfl, rfl⟩)
