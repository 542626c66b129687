theorem q_member {σ : MT} {τ : CT} (hR : Rel σ τ) (hW : CW τ) (th : Int32) : xEq (wIs (fX7_member τ)) ["java/lang/IllegalStateException"] τ (some (fX8_member σ th).1.toInt64) (fX8_member σ th).2.1 (fX8_member σ th).2.2 := by
  have w := hW.1
  obtain ⟨hN, hB, hM, hP, hS, hE, hO, hC, hZ, hA, hV, hw, hU, hY⟩ := id hR
  have hN34 := hN.2.2.2.2.2.2.2.1
  unfold fX7_member fX8_member
  rw [hN.2.1]
  by_cases h : cN τ 0 = 12
  · have h2 : ¬ nI (cN τ 0) < nI 12 := by rw [nI_ltI (by omega) (by omega)]; omega
    simp only [if_pos (congrArg nI h), if_neg h2]; exact xEq.thr hR rfl (⟨rfl, rfl⟩)
  · have h2 : nI (cN τ 0) < nI 12 := nI_lt (by omega) (by omega)
    have h3 : ¬ nI (cN τ 0) = nI 12 := by rw [nI_eq (by omega) (by omega)]; exact h
    simp only [if_neg h3, if_pos h2]
    obtain ⟨n1, n2, n3, n4, n5, n6, n7, n8, n9⟩ := hN
    refine xEq.ret rfl rfl ⟨?_, hB, ?_, ?_, hS, hE, hO, hC, hZ, hA, hV, hw, hU, hY⟩
    · exact ⟨n1, rfl, n3, n4, n5, n6, n7, n8, n9⟩
    · intro m hm y hy
      obtain ⟨k1, k2⟩ := hM m hm y hy
      refine ⟨fun h9 => ?_, fun h9 => ?_⟩
      · have h7 : m < cN τ 0 + 1 := h9
        show (mI σ 3 (20 * m + y) = (if m = cN τ 0 then (if (0 : Nat) = 0 then xfil (nI 100) (fun _ => 0) 20 y else 0) else cM τ 0 m y) ∧ ∃ q, 10 ≤ q ∧ q ≤ 500 ∧ (if m = cN τ 0 then (if (0 : Nat) = 0 then xfil (nI 100) (fun _ => 0) 20 y else 0) else cM τ 0 m y) = nI q) ∧ ((mI σ 6 (20 * m + y) = 0 ∧ (if m = cN τ 0 then (if (1 : Nat) = 0 then xfil (nI 100) (fun _ => 0) 20 y else 0) else cM τ 1 m y) = 0 ∧ (if m = cN τ 0 then 0 else cD τ m y) = 0) ∨ (mI σ 6 (20 * m + y) = 1 ∧ (if m = cN τ 0 then (if (1 : Nat) = 0 then xfil (nI 100) (fun _ => 0) 20 y else 0) else cM τ 1 m y) = 1 ∧ (if m = cN τ 0 then 0 else cD τ m y) = mL σ 7 (20 * m + y)) ∨ (mI σ 6 (20 * m + y) = 2 ∧ (if m = cN τ 0 then (if (1 : Nat) = 0 then xfil (nI 100) (fun _ => 0) 20 y else 0) else cM τ 1 m y) = 0 ∧ (if m = cN τ 0 then 0 else cD τ m y) = mL σ 7 (20 * m + y) ∧ y < mN σ 34))
        by_cases h8 : m = cN τ 0
        · obtain ⟨s1, s2⟩ := k2 (by omega)
          have hx : xfil (nI 100) (fun _ => (0 : Int32)) 20 y = nI 100 := if_pos hy
          rw [if_pos h8, if_pos h8, if_pos h8, if_pos rfl, hx]
          exact ⟨⟨s1, 100, by omega, by omega, rfl⟩, Or.inl ⟨s2, if_neg (by decide), rfl⟩⟩
        · rw [if_neg h8, if_neg h8, if_neg h8]; exact k1 (by omega)
      · have h7 : cN τ 0 + 1 ≤ m := h9
        exact k2 (by omega)
    · intro m hm
      obtain ⟨k1, k2⟩ := hP m hm
      refine ⟨fun h9 => ?_, fun h9 => ?_⟩
      · have h7 : m < cN τ 0 + 1 := h9
        show mL σ 4 m = (if (20 : Nat) = 20 ∧ m = cN τ 0 then 0 else cL τ 20 m) ∧ (if (5 : Nat) = 5 ∧ m = cN τ 0 then -1 else mI σ 5 m) = (if (20 : Nat) = 20 ∧ m = cN τ 0 then -1 else cI τ 20 m)
        by_cases h8 : m = cN τ 0
        · rw [if_pos ⟨rfl, h8⟩, if_pos ⟨rfl, h8⟩, if_pos ⟨rfl, h8⟩]; exact ⟨k2 (by omega), rfl⟩
        · rw [if_neg (fun z => h8 z.2), if_neg (fun z => h8 z.2), if_neg (fun z => h8 z.2)]; exact k1 (by omega)
      · have h7 : cN τ 0 + 1 ≤ m := h9
        exact k2 (by omega)
theorem q_ship {σ : MT} {τ : CT} (hR : Rel σ τ) (hW : CW τ) (th : Int32) (a1 a2 : Int32) : xEq (wIs (fX7_ship τ a1 a2)) ["java/lang/IndexOutOfBoundsException", "java/lang/IllegalArgumentException", "java/lang/IllegalStateException"] τ (some (fX8_ship σ th a1 a2).1.toInt64) (fX8_ship σ th a1 a2).2.1 (fX8_ship σ th a1 a2).2.2 := by
  have w := hW.1
  obtain ⟨hN, hB, hM, hP, hS, hE, hO, hC, hZ, hA, hV, hw, hU, hY⟩ := id hR
  have hN34 := hN.2.2.2.2.2.2.2.1
  unfold fX7_ship fX8_ship
  rcases p_member hR.1 hW a1 with ⟨m1a, m1b⟩ | ⟨q1, h1, e1, t1, m1a, m1b⟩
  · simp only [m1a, m1b, if_pos n00, ite_self, xb_l]; exact xEq.thr hR rfl (Or.inl ⟨rfl, rfl⟩)
  simp only [m1a, m1b, if_neg n10, xb_r, t1]
  rcases p_in (x := a2) (a := 1) (b := 999) (by first | decide | omega) (by first | decide | omega) with ⟨m2a, m2b⟩ | ⟨q2, g2, h2, e2, m2a, m2b⟩
  · simp only [m2a, m2b, if_pos n00, ite_self, xb_l]; exact xEq.thr hR rfl (Or.inr (Or.inl ⟨rfl, rfl⟩))
  have t2 : tn a2 = q2 := by rw [e2]; exact tn_nI (by omega)
  simp only [m2a, m2b, if_neg n10, xb_r, t2]
  rw [hN.2.2.1]
  by_cases h : cN τ 1 = 24
  · have h2' : ¬ nI (cN τ 1) < nI 24 := by rw [nI_ltI (by omega) (by omega)]; omega
    simp only [if_pos (congrArg nI h), if_neg h2']; exact xEq.thr hR rfl (Or.inr (Or.inr ⟨rfl, rfl⟩))
  · have h2' : nI (cN τ 1) < nI 24 := nI_lt (by omega) (by omega)
    have h3' : ¬ nI (cN τ 1) = nI 24 := by rw [nI_eq (by omega) (by omega)]; exact h
    simp only [if_neg h3', if_pos h2']
    obtain ⟨n1, n2, n3, n4, n5, n6, n7, n8, n9⟩ := hN
    refine xEq.ret rfl rfl ⟨?_, hB, hM, hP, ?_, hE, ?_, hC, hZ, ?_, hV, hw, hU, hY⟩
    · exact ⟨n1, n2, rfl, n4, n5, n6, n7, n8, n9⟩
    · intro s hs
      have h7 : s < cN τ 1 + 1 := hs
      show (if (9 : Nat) = 9 ∧ s = cN τ 1 then q1 else mK σ 9 s) = (if (10 : Nat) = 10 ∧ s = cN τ 1 then q1 else cK τ 10 s) ∧ (if (10 : Nat) = 10 ∧ s = cN τ 1 then nI q2 else mI σ 10 s) = (if (21 : Nat) = 21 ∧ s = cN τ 1 then nI q2 else cI τ 21 s) ∧ ∃ t, 1 ≤ t ∧ t ≤ 999 ∧ (if (21 : Nat) = 21 ∧ s = cN τ 1 then nI q2 else cI τ 21 s) = nI t
      by_cases h8 : s = cN τ 1
      · rw [if_pos ⟨rfl, h8⟩, if_pos ⟨rfl, h8⟩, if_pos ⟨rfl, h8⟩, if_pos ⟨rfl, h8⟩]; exact ⟨rfl, rfl, q2, by omega, by omega, rfl⟩
      · rw [if_neg (fun z => h8 z.2), if_neg (fun z => h8 z.2), if_neg (fun z => h8 z.2), if_neg (fun z => h8 z.2)]; exact hS s (by omega)
    · intro s hs
      have h7 : s < cN τ 1 + 1 := hs
      show ((if (14 : Nat) = 14 ∧ s = cN τ 1 then 0 else cK τ 14 s) = 0 → ∀ e, e < cN τ 2 → mK σ 12 e = s → mI σ 14 e ≠ -1) ∧ ((if (14 : Nat) = 14 ∧ s = cN τ 1 then 0 else cK τ 14 s) ≠ 0 → mK σ 12 ((if (14 : Nat) = 14 ∧ s = cN τ 1 then 0 else cK τ 14 s) - 1) = s ∧ mI σ 14 ((if (14 : Nat) = 14 ∧ s = cN τ 1 then 0 else cK τ 14 s) - 1) = -1 ∧ ∀ e, e < cN τ 2 → mK σ 12 e = s → mI σ 14 e = -1 → e = (if (14 : Nat) = 14 ∧ s = cN τ 1 then 0 else cK τ 14 s) - 1)
      by_cases h8 : s = cN τ 1
      · rw [if_pos ⟨rfl, h8⟩]
        refine ⟨fun _ e he hk => ?_, fun z => absurd rfl z⟩
        have g := hW.2.2.1 e he
        rw [(hE e he).1] at hk
        omega
      · rw [if_neg (fun z => h8 z.2)]; exact hO s (by omega)
    · intro s hs c hc
      obtain ⟨k1, k2⟩ := hA s hs c hc
      refine ⟨fun h9 => ?_, fun h9 => ?_⟩
      · have h7 : s < cN τ 1 + 1 := h9
        show mI σ 36 (60 * s + c) = 0 ↔ abit (if (21 : Nat) = 21 ∧ s = cN τ 1 then 0 else cL τ 21 s) c = false
        by_cases h8 : s = cN τ 1
        · rw [if_pos ⟨rfl, h8⟩]; exact ⟨fun _ => by simp [abit], fun _ => k2 (by omega)⟩
        · rw [if_neg (fun z => h8 z.2)]; exact k1 (by omega)
      · have h7 : cN τ 1 + 1 ≤ s := h9
        exact k2 (by omega)
theorem open_s (σ : MT) (s n k : Nat) (a : Int32) : fX8_open_L4 σ (nI s) (n + 1) k a = fX8_open_L4 σ (nI s) n (k + 1) (if nI (mK σ 12 k) = nI s then (if mI σ 14 k = -1 then nI k else a) else a) := rfl
theorem e_open {σ : MT} {τ : CT} (hN : RelN σ τ) (hE : RelE σ τ) (hO : RelO σ τ) (hW : CW τ) {s : Nat} (hs : s < cN τ 1) : (cK τ 14 s = 0 → fX8_open σ (nI s) = -1) ∧ (cK τ 14 s ≠ 0 → fX8_open σ (nI s) = nI (cK τ 14 s - 1)) := by
  have w := hW.1
  obtain ⟨o1, o2⟩ := hO s hs
  unfold fX8_open
  rw [hN.2.2.2.1]
  constructor
  · intro h0
    have L : ∀ n k, k + n = cN τ 2 → fX8_open_L4 σ (nI s) n k (-1) = -1 := by
      intro n
      induction n with
      | zero => intro k _; rfl
      | succ n ih =>
        intro k hk
        rw [open_s]
        have g := hW.2.2.1 k (by omega)
        have e1 := (hE k (by omega)).1
        by_cases hq : mK σ 12 k = s
        · rw [if_pos (congrArg nI hq), if_neg (o1 h0 k (by omega) hq)]; exact ih _ (by omega)
        · rw [if_neg (by rw [nI_eq (by omega) (by omega)]; exact hq)]; exact ih _ (by omega)
    exact L _ 0 (by omega)
  · intro h0
    obtain ⟨p1, p2, p3⟩ := o2 h0
    have h14 := hW.2.2.2.2.2.1 s hs
    have L : ∀ n k a, k + n = cN τ 2 → (k ≤ cK τ 14 s - 1 ∨ a = nI (cK τ 14 s - 1)) → fX8_open_L4 σ (nI s) n k a = nI (cK τ 14 s - 1) := by
      intro n
      induction n with
      | zero =>
        intro k a h1 h2
        rcases h2 with h2 | h2
        · omega
        · exact h2
      | succ n ih =>
        intro k a hk ha
        rw [open_s]
        have g := hW.2.2.1 k (by omega)
        have e1 := (hE k (by omega)).1
        by_cases hq : mK σ 12 k = s
        · rw [if_pos (congrArg nI hq)]
          by_cases h14 : mI σ 14 k = -1
          · rw [if_pos h14]; exact ih _ _ (by omega) (Or.inr (congrArg nI (p3 k (by omega) hq h14)))
          · rw [if_neg h14]
            refine ih _ _ (by omega) ?_
            rcases ha with ha | ha
            · refine Or.inl ?_
              have : k ≠ cK τ 14 s - 1 := fun z => h14 (z ▸ p2)
              omega
            · exact Or.inr ha
        · rw [if_neg (by rw [nI_eq (by omega) (by omega)]; exact hq)]
          refine ih _ _ (by omega) ?_
          rcases ha with ha | ha
          · refine Or.inl ?_
            have : k ≠ cK τ 14 s - 1 := fun z => hq (z ▸ p1)
            omega
          · exact Or.inr ha
    exact L _ 0 _ (by omega) (Or.inl (by omega))
theorem q_enter {σ : MT} {τ : CT} (hR : Rel σ τ) (hW : CW τ) (th : Int32) (a1 : Int32) : xEq (wVs (fX7_enter τ a1)) ["java/lang/IndexOutOfBoundsException", "java/lang/IllegalStateException"] τ none (fX8_enter σ th a1).1 (fX8_enter σ th a1).2 := by
  have w := hW.1
  obtain ⟨hN, hB, hM, hP, hS, hE, hO, hC, hZ, hA, hV, hw, hU, hY⟩ := id hR
  have hN34 := hN.2.2.2.2.2.2.2.1
  unfold fX7_enter fX8_enter
  rcases p_ship hR.1 hW a1 with ⟨m1a, m1b⟩ | ⟨q1, h1, e1, t1, m1a, m1b⟩
  · simp only [m1a, m1b, if_pos n00, ite_self, xb_l]; exact xEq.thr hR rfl (Or.inl ⟨rfl, rfl⟩)
  simp only [m1a, m1b, if_neg n10, xb_r, t1]
  obtain ⟨o1, o2⟩ := e_open hN hE hO hW h1
  have ho := hW.2.1 q1 h1
  rw [hN.1, hN.2.2.2.1, (hS q1 h1).1]
  by_cases g0 : cK τ 14 q1 = 0
  · rw [o1 g0]
    simp only [if_pos g0, if_pos (show (-1 : Int32) = -1 from rfl)]
    obtain ⟨-, rf⟩ := (hM (cK τ 10 q1) (by omega) (cN τ 5 / 100) (by omega)).1 ho
    have hcond : (mI σ 6 (20 * cK τ 10 q1 + cN τ 5 / 100) = nI 1 ∧ ¬ cM τ 1 (cK τ 10 q1) (cN τ 5 / 100) = 0) ∨ (¬ mI σ 6 (20 * cK τ 10 q1 + cN τ 5 / 100) = nI 1 ∧ cM τ 1 (cK τ 10 q1) (cN τ 5 / 100) = 0) := by
      rcases rf with ⟨f1, f2, f3⟩ | ⟨f1, f2, f3⟩ | ⟨f1, f2, f3, f4⟩
      · exact Or.inr ⟨by rw [f1]; decide, f2⟩
      · exact Or.inl ⟨f1, by rw [f2]; decide⟩
      · exact Or.inr ⟨by rw [f1]; decide, f2⟩
    rcases hcond with ⟨g1, g2⟩ | ⟨g1, g2⟩
    · simp only [if_pos g1, if_neg g2]; exact xEq.thr hR rfl (Or.inr ⟨rfl, rfl⟩)
    simp only [if_neg g1, if_pos g2]
    by_cases g3 : cN τ 2 < 60
    · have g4 : nI (cN τ 2) < nI 60 := nI_lt g3 (by omega)
      have g5 : ¬ nI 60 ≤ nI (cN τ 2) := by rw [nI_leI (by omega) (by omega)]; omega
      simp only [if_pos g4, if_neg g5]
      obtain ⟨n1, n2, n3, n4, n5, n6, n7, n8, n9⟩ := hN
      refine xEq.ret rfl rfl ⟨?_, hB, hM, hP, hS, ?_, ?_, hC, hZ, hA, hV, hw, hU, hY⟩
      · exact ⟨n1, n2, n3, rfl, n5, n6, n7, n8, n9⟩
      · intro e he
        have h7 : e < cN τ 2 + 1 := he
        show (if (12 : Nat) = 12 ∧ e = cN τ 2 then q1 else mK σ 12 e) = (if (11 : Nat) = 11 ∧ e = cN τ 2 then q1 else cK τ 11 e) ∧ ∃ f, f ≤ cN τ 5 ∧ (if (13 : Nat) = 13 ∧ e = cN τ 2 then nI (cN τ 5) else mI σ 13 e) = nI f ∧ (if (22 : Nat) = 22 ∧ e = cN τ 2 then nI (cN τ 5) else cI τ 22 e) = nI f ∧ (((if (14 : Nat) = 14 ∧ e = cN τ 2 then -1 else mI σ 14 e) = -1 ∧ (if (23 : Nat) = 23 ∧ e = cN τ 2 then nI 2000 else cI τ 23 e) = nI 2000) ∨ ∃ u, u ≤ cN τ 5 ∧ (if (14 : Nat) = 14 ∧ e = cN τ 2 then -1 else mI σ 14 e) = nI u ∧ (if (23 : Nat) = 23 ∧ e = cN τ 2 then nI 2000 else cI τ 23 e) = nI u)
        by_cases h8 : e = cN τ 2
        · rw [if_pos ⟨rfl, h8⟩, if_pos ⟨rfl, h8⟩, if_pos ⟨rfl, h8⟩, if_pos ⟨rfl, h8⟩, if_pos ⟨rfl, h8⟩, if_pos ⟨rfl, h8⟩]; exact ⟨rfl, cN τ 5, Nat.le_refl _, rfl, rfl, Or.inl ⟨rfl, rfl⟩⟩
        · rw [if_neg (fun z => h8 z.2), if_neg (fun z => h8 z.2), if_neg (fun z => h8 z.2), if_neg (fun z => h8 z.2), if_neg (fun z => h8 z.2), if_neg (fun z => h8 z.2)]; exact hE e (by omega)
      · intro s hs
        obtain ⟨p1, p2⟩ := hO s hs
        show ((if (14 : Nat) = 14 ∧ s = q1 then cN τ 2 + 1 else cK τ 14 s) = 0 → ∀ e, e < cN τ 2 + 1 → (if (12 : Nat) = 12 ∧ e = cN τ 2 then q1 else mK σ 12 e) = s → (if (14 : Nat) = 14 ∧ e = cN τ 2 then -1 else mI σ 14 e) ≠ -1) ∧ ((if (14 : Nat) = 14 ∧ s = q1 then cN τ 2 + 1 else cK τ 14 s) ≠ 0 → (if (12 : Nat) = 12 ∧ (if (14 : Nat) = 14 ∧ s = q1 then cN τ 2 + 1 else cK τ 14 s) - 1 = cN τ 2 then q1 else mK σ 12 ((if (14 : Nat) = 14 ∧ s = q1 then cN τ 2 + 1 else cK τ 14 s) - 1)) = s ∧ (if (14 : Nat) = 14 ∧ (if (14 : Nat) = 14 ∧ s = q1 then cN τ 2 + 1 else cK τ 14 s) - 1 = cN τ 2 then -1 else mI σ 14 ((if (14 : Nat) = 14 ∧ s = q1 then cN τ 2 + 1 else cK τ 14 s) - 1)) = -1 ∧ ∀ e, e < cN τ 2 + 1 → (if (12 : Nat) = 12 ∧ e = cN τ 2 then q1 else mK σ 12 e) = s → (if (14 : Nat) = 14 ∧ e = cN τ 2 then -1 else mI σ 14 e) = -1 → e = (if (14 : Nat) = 14 ∧ s = q1 then cN τ 2 + 1 else cK τ 14 s) - 1)
        by_cases h8 : s = q1
        · rw [if_pos (show (14 : Nat) = 14 ∧ s = q1 from ⟨rfl, h8⟩), show cN τ 2 + 1 - 1 = cN τ 2 by omega, if_pos (show (12 : Nat) = 12 ∧ cN τ 2 = cN τ 2 from ⟨rfl, rfl⟩), if_pos (show (14 : Nat) = 14 ∧ cN τ 2 = cN τ 2 from ⟨rfl, rfl⟩)]
          refine ⟨fun z => absurd z (by omega), fun _ => ⟨h8.symm, rfl, fun e he g6 g7 => ?_⟩⟩
          by_cases h6 : e = cN τ 2
          · exact h6
          · rw [if_neg (fun z => h6 z.2)] at g6 g7
            exact absurd g7 (p1 (by rw [h8]; exact g0) e (by omega) g6)
        · rw [if_neg (show ¬ ((14 : Nat) = 14 ∧ s = q1) from fun z => h8 z.2)]
          refine ⟨fun z e he g6 g7 => ?_, fun z => ?_⟩
          · by_cases h6 : e = cN τ 2
            · rw [if_pos ⟨rfl, h6⟩] at g6; exact h8 g6.symm
            · rw [if_neg (fun z => h6 z.2)] at g6 g7; exact p1 z e (by omega) g6 g7
          · obtain ⟨r1, r2, r3⟩ := p2 z
            have r4 := hW.2.2.2.2.2.1 s hs
            rw [if_neg (fun z => by omega), if_neg (fun z => by omega)]
            refine ⟨r1, r2, fun e he g6 g7 => ?_⟩
            by_cases h6 : e = cN τ 2
            · rw [if_pos ⟨rfl, h6⟩] at g6; exact absurd g6.symm h8
            · rw [if_neg (fun z => h6 z.2)] at g6 g7; exact r3 e (by omega) g6 g7
    · have g4 : ¬ nI (cN τ 2) < nI 60 := by rw [nI_ltI (by omega) (by omega)]; exact g3
      have g5 : nI 60 ≤ nI (cN τ 2) := nI_le (by omega) (by omega)
      simp only [if_neg g4, if_pos g5]; exact xEq.thr hR rfl (Or.inr ⟨rfl, rfl⟩)
  · rw [o2 g0]
    simp only [if_neg g0, if_neg (nI_m1 (n := cK τ 14 q1 - 1) (by have := hW.2.2.2.2.2.1 q1 h1; omega))]; exact xEq.thr hR rfl (Or.inr ⟨rfl, rfl⟩)
theorem q_leave {σ : MT} {τ : CT} (hR : Rel σ τ) (hW : CW τ) (th : Int32) (a1 : Int32) : xEq (wIs (fX7_leave τ a1)) ["java/lang/IndexOutOfBoundsException", "java/lang/IllegalStateException"] τ (some (fX8_leave σ th a1).1.toInt64) (fX8_leave σ th a1).2.1 (fX8_leave σ th a1).2.2 := by
  have w := hW.1
  obtain ⟨hN, hB, hM, hP, hS, hE, hO, hC, hZ, hA, hV, hw, hU, hY⟩ := id hR
  have hN34 := hN.2.2.2.2.2.2.2.1
  unfold fX7_leave fX8_leave
  rcases p_ship hR.1 hW a1 with ⟨m1a, m1b⟩ | ⟨q1, h1, e1, t1, m1a, m1b⟩
  · simp only [m1a, m1b, if_pos n00, ite_self, xb_l]; exact xEq.thr hR rfl (Or.inl ⟨rfl, rfl⟩)
  simp only [m1a, m1b, if_neg n10, xb_r, t1]
  obtain ⟨o1, o2⟩ := e_open hN hE hO hW h1
  have h14 := hW.2.2.2.2.2.1 q1 h1
  obtain ⟨p1, p2⟩ := hO q1 h1
  by_cases g0 : cK τ 14 q1 = 0
  · rw [o1 g0]
    simp only [if_pos g0, if_pos (show (-1 : Int32) = -1 from rfl)]; exact xEq.thr hR rfl (Or.inr ⟨rfl, rfl⟩)
  · rw [o2 g0]
    obtain ⟨r1, r2, r3⟩ := p2 g0
    simp only [if_neg g0, if_neg (nI_m1 (n := cK τ 14 q1 - 1) (by omega))]
    rw [tn_nI (n := cK τ 14 q1 - 1) (by omega), hN.1]
    obtain ⟨-, f, f1, f2, f3, -⟩ := hE (cK τ 14 q1 - 1) (by omega)
    rw [f2, f3]
    refine xEq.ret rfl rfl ⟨hN, hB, hM, hP, hS, ?_, ?_, hC, hZ, hA, hV, hw, hU, hY⟩
    · intro e he
      obtain ⟨e1, f, f1, f2, f3, f4⟩ := hE e he
      refine ⟨e1, f, f1, f2, f3, ?_⟩
      show ((if (14 : Nat) = 14 ∧ e = cK τ 14 q1 - 1 then nI (cN τ 5) else mI σ 14 e) = -1 ∧ (if (23 : Nat) = 23 ∧ e = cK τ 14 q1 - 1 then nI (cN τ 5) else cI τ 23 e) = nI 2000) ∨ ∃ u, u ≤ cN τ 5 ∧ (if (14 : Nat) = 14 ∧ e = cK τ 14 q1 - 1 then nI (cN τ 5) else mI σ 14 e) = nI u ∧ (if (23 : Nat) = 23 ∧ e = cK τ 14 q1 - 1 then nI (cN τ 5) else cI τ 23 e) = nI u
      by_cases h8 : e = cK τ 14 q1 - 1
      · rw [if_pos ⟨rfl, h8⟩, if_pos ⟨rfl, h8⟩]; exact Or.inr ⟨cN τ 5, Nat.le_refl _, rfl, rfl⟩
      · rw [if_neg (fun z => h8 z.2), if_neg (fun z => h8 z.2)]; exact f4
    · intro s hs
      obtain ⟨s1, s2⟩ := hO s hs
      show ((if (14 : Nat) = 14 ∧ s = q1 then 0 else cK τ 14 s) = 0 → ∀ e, e < cN τ 2 → mK σ 12 e = s → (if (14 : Nat) = 14 ∧ e = cK τ 14 q1 - 1 then nI (cN τ 5) else mI σ 14 e) ≠ -1) ∧ ((if (14 : Nat) = 14 ∧ s = q1 then 0 else cK τ 14 s) ≠ 0 → mK σ 12 ((if (14 : Nat) = 14 ∧ s = q1 then 0 else cK τ 14 s) - 1) = s ∧ (if (14 : Nat) = 14 ∧ (if (14 : Nat) = 14 ∧ s = q1 then 0 else cK τ 14 s) - 1 = cK τ 14 q1 - 1 then nI (cN τ 5) else mI σ 14 ((if (14 : Nat) = 14 ∧ s = q1 then 0 else cK τ 14 s) - 1)) = -1 ∧ ∀ e, e < cN τ 2 → mK σ 12 e = s → (if (14 : Nat) = 14 ∧ e = cK τ 14 q1 - 1 then nI (cN τ 5) else mI σ 14 e) = -1 → e = (if (14 : Nat) = 14 ∧ s = q1 then 0 else cK τ 14 s) - 1)
      by_cases h8 : s = q1
      · rw [if_pos (show (14 : Nat) = 14 ∧ s = q1 from ⟨rfl, h8⟩)]
        refine ⟨fun _ e he g6 => ?_, fun z => absurd rfl z⟩
        by_cases h6 : e = cK τ 14 q1 - 1
        · rw [if_pos ⟨rfl, h6⟩]; exact nI_m1 (by omega)
        · rw [if_neg (fun z => h6 z.2)]; exact fun z => h6 (r3 e he (g6.trans h8) z)
      · rw [if_neg (show ¬ ((14 : Nat) = 14 ∧ s = q1) from fun z => h8 z.2)]
        refine ⟨fun z e he g6 => ?_, fun z => ?_⟩
        · by_cases h6 : e = cK τ 14 q1 - 1
          · rw [if_pos ⟨rfl, h6⟩]; exact nI_m1 (by omega)
          · rw [if_neg (fun z => h6 z.2)]; exact s1 z e he g6
        · obtain ⟨u1, u2, u3⟩ := s2 z
          have hne : ¬ cK τ 14 s - 1 = cK τ 14 q1 - 1 := fun y => h8 (by rw [← u1, y]; exact r1)
          rw [if_neg (fun z => hne z.2)]
          refine ⟨u1, u2, fun e he g6 g7 => ?_⟩
          by_cases h6 : e = cK τ 14 q1 - 1
          · rw [if_pos ⟨rfl, h6⟩] at g7; exact absurd g7 (nI_m1 (by omega))
          · rw [if_neg (fun z => h6 z.2)] at g7; exact u3 e he g6 g7
