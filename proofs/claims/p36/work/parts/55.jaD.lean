section JAD
variable {t : Nat} {σ : LT} {τ : CT} {q12 : Int64} {n14 n15 n16 n17 : Nat}
theorem close_can (hJ : J t σ τ q12 n14 n15 n16 n17) (hW : LW σ) (hF : lF σ < 3) : fX7_checkClosable τ (lF σ) = if n17 < 100 * lF σ + 100 then .inl "java/lang/IllegalStateException" else fX7_checkClosable_L60 τ (lF σ) n15 0 := by
  obtain ⟨⟨a0, a1, a2, a3, a4, a5, a6, b1, b2, b3, b4, b5⟩, hM, hP, hS, hE, hO, hJC, hV, hJW, hU, hY, hB⟩ := id hJ
  have h33 : cI τ 33 (lF σ) = 0 := (hY.1 _ hF).2.2.2.2.1.mpr (Nat.le_refl _)
  unfold fX7_checkClosable fX7_checkOpen
  rw [if_pos h33, xb_inr, a5]
  by_cases h : n17 < 100 * lF σ + 100
  · rw [if_pos h, if_neg (show ¬ nI ((lF σ + 1) * 100) ≤ nI n17 by rw [nI_leI (by omega) (by omega)]; omega)]
  · rw [if_neg h, if_pos (show nI ((lF σ + 1) * 100) ≤ nI n17 from nI_le (by omega) (by omega))]
    unfold fX7_checkClosable_B58
    rw [a3]
    by_cases h0 : nI (lF σ) ≤ 0
    · rw [if_pos h0]
    · rw [if_neg h0]
      have : ¬ lF σ = 0 := fun z => h0 (by rw [z]; decide)
      rw [if_neg (fun z => by have := (hY.1 (lF σ - 1) (by omega)).2.2.2.2.1.mp z; omega)]
theorem fl4_b (σ : LT) (n14 F k c : Nat) (h : lK σ 3 (6 * c + 5) < 8) : fl4 σ n14 F k c < 8 ∧ fl4 σ n14 F k c &&& 1 = lK σ 3 (6 * c + 5) &&& 1 ∧ fl4 σ n14 F k c &&& 2 = lK σ 3 (6 * c + 5) &&& 2 := by
  obtain ⟨h1, h2, h3, -⟩ := bits4 _ h
  unfold fl4
  split
  · exact ⟨h1, h2, h3⟩
  · exact ⟨h, rfl, rfl⟩
theorem a_shut (hJ : J t σ τ q12 n14 n15 n16 n17) (hW : LW σ) (hC : CW τ) (hF : lF σ < 3) (h17 : 100 * lF σ + 100 ≤ n17) : ∃ τ2, fX7_close_L30 τ (nI (lF σ)) (cN (fX7_share τ (lF σ) (fX7_costIn τ (nI (lF σ)) - fX7_dueOfReleased τ (lF σ))) 3) 0 (fX7_share τ (lF σ) (fX7_costIn τ (nI (lF σ)) - fX7_dueOfReleased τ (lF σ))) = .inr (fX7_costIn τ (nI (lF σ)), τ2) ∧ Aok (t + 1) (fS2170 σ τ2 q12 n14 n15 n16 n17 (lF σ) (fL_cost σ n14 n15 n16 (lF σ))) := by
  obtain ⟨⟨a0, a1, a2, a3, a4, a5, a6, b1, b2, b3, b4, b5⟩, hM, hP, hS, hE, hO, hJC, hV, hJW, hU, hY, hB⟩ := id hJ
  have h33 : cI τ 33 (lF σ) = 0 := (hY.1 _ hF).2.2.2.2.1.mpr (Nat.le_refl _)
  have hcve : ∀ c, c < n15 → fX7_isCovered τ c = fL_covered σ n14 c := fun c hc => cov_eq hJ hW hC hc
  have cday : ∀ c, c < n15 → cK τ 16 (cK τ 13 c) = lK σ 3 (6 * c + 2) ∧ lK σ 3 (6 * c + 2) ≤ n17 := fun c hc => by
    obtain ⟨c1, c2, c3, c4, c5, c6, c7, c8, c9, c10, c11, c12⟩ := hJC.1 c hc
    rw [c3, c5]; exact ⟨rfl, c6⟩
  -- the class's end
  obtain ⟨-, -, -, -, -, -, -, -, τs, ss, s1, s2, s3, s4, s5, s6, -⟩ := shut_run hJ hW hC hF τ
  have hN3 : cN τs 3 = n15 := by rw [← a3]; show τs.2.2.1 3 0 = τ.2.2.1 3 0; rw [s2]
  obtain ⟨τ2, g1, g2, g3, g4⟩ := close_loop (τ := τ) (τ1 := τs) (n15 := n15) τ (nI (lF σ)) (F := lF σ) (tn_nI (by omega)) s2 s1 h33 (fun c hc => by have := cday c hc; omega) (by omega) n15 0 τs (by omega) rfl (fun _ _ _ => rfl) (fun c => by rw [if_neg (by omega)]; show τs.1 28 c = τ.1 28 c; rw [s1])
  rw [ss, hN3, g1]
  refine ⟨_, rfl, ?_⟩
  obtain ⟨σf, σ1, q1, hFX, e1, x1, x2, x3, τs', ss', -, -, -, -, s5', -, hpP⟩ := shut_run hJ hW hC hF (cSI τ2 33 (lF σ) (nI 1))
  have hss : τs' = τs := ss'.symm.trans ss
  subst hss
  rw [e1]
  obtain ⟨w1, w2, w3, w4⟩ := hFX
  generalize hFF : lF σ = F at *
  -- rows of the new states
  have kC : ∀ a b, cK (cSI τ2 33 F (nI 1)) a b = cK τ a b := fun a b => show τ2.2.2.1 a b = τ.2.2.1 a b by rw [g2, s2]
  have mC : ∀ a b c, cM (cSI τ2 33 F (nI 1)) a b c = cM τ a b c := fun a b c => show τ2.2.2.2.1 a b c = τ.2.2.2.1 a b c by rw [g2, s3]
  have dC : ∀ m y, cD (cSI τ2 33 F (nI 1)) m y = cD τs' m y := fun m y => show τ2.2.2.2.2 m y = τs'.2.2.2.2 m y by rw [g2]
  have lC : ∀ a b, cL (cSI τ2 33 F (nI 1)) a b = cL τs' a b := fun a b => show τ2.2.1 a b = τs'.2.1 a b by rw [g2]
  have iC : ∀ a b, a ≠ 33 → a ≠ 28 → cI (cSI τ2 33 F (nI 1)) a b = cI τ a b := fun a b h h2 => by
    rw [ci_n _ _ _ _ _ _ h, g3 a b h2]; show τs'.1 a b = τ.1 a b; rw [s1]
  have i33 : ∀ b, cI (cSI τ2 33 F (nI 1)) 33 b = if b = F then nI 1 else cI τ 33 b := fun b => by
    rw [ci_s]
    by_cases h : b = F
    · rw [if_pos h, if_pos h]
    · rw [if_neg h, if_neg h, g3 33 b (by decide)]; show τs'.1 33 b = τ.1 33 b; rw [s1]
  have i28 : ∀ c, cI (cSI τ2 33 F (nI 1)) 28 c = if c < n15 ∧ cK τ 16 (cK τ 13 c) / 100 = F then fX7_isCovered τ c else cI τ 28 c := fun c => by
    rw [ci_n _ _ _ _ _ _ (by decide)]; exact g4 c
  have kL : ∀ a b, (a ≠ 3 ∨ b % 6 ≠ 5) → lK (lSI σ1 7 12 (nI (F + 1))) a b = lK σ a b := fun a b h => by
    show σ1.2.2 a b = _; rw [x1]; exact w3 a b h
  have kF : ∀ c, lK (lSI σ1 7 12 (nI (F + 1))) 3 (6 * c + 5) = fl4 σ n14 F n15 c := fun c => by
    show σ1.2.2 3 (6 * c + 5) = _; rw [x1]; exact w4 c
  have iL : ∀ a b, (a ≠ 7 ∨ (9 ≤ b ∧ b ≠ 12) ∨ (b % 3 ≠ F ∧ b ≠ 12)) → lI (lSI σ1 7 12 (nI (F + 1))) a b = lI σ a b := fun a b h => by
    rw [lSI_I, if_neg (by omega)]; exact x2 a b (by omega)
  have iM : ∀ m, m < 3 → lI (lSI σ1 7 12 (nI (F + 1))) 7 (3 * m + F) = lI σ1 7 (3 * m + F) := fun m hm => by
    rw [lSI_I, if_neg (by omega)]
  have hF1 : lF (lSI σ1 7 12 (nI (F + 1))) = F + 1 := by
    unfold lF
    rw [lSI_I, if_pos ⟨rfl, rfl⟩, tn_nI (by omega)]
  have lL' : ∀ a b, lL (lSI σ1 7 12 (nI (F + 1))) a b = lL σ1 a b := fun _ _ => rfl
  generalize lSI σ1 7 12 (nI (F + 1)) = σn at *
  generalize cSI τ2 33 F (nI 1) = τn at *
  have nC : ∀ a, cN τn a = cN τ a := fun a => kC a 0
  refine ⟨_, _, _, _, _, _, _, rfl, ⟨by rw [nC, a0], by rw [nC, a1], by rw [nC, a2], by rw [nC, a3], by rw [nC, a4], by rw [nC, a5], by rw [lC]; exact s5', b1, b2, b3, b4, by rw [hF1]; omega⟩, ?_, ?_, ?_, ?_, ?_, ⟨?_, ?_⟩, ?_, ⟨?_, ?_⟩, ?_, ⟨?_, ?_⟩, ?_⟩
  · -- members
    intro m hm
    obtain ⟨j1, j2⟩ := hM m hm
    refine ⟨fun y hy => ?_, fun y h3 hy => ?_⟩
    · obtain ⟨k1, k2, k3, k4⟩ := j1 y hy
      rw [mC, kL _ _ (by omega), mC, dC, hF1, lL']
      refine ⟨k1, k2, k3, ?_⟩
      by_cases h : y = F
      · subst h
        rw [iM m hm]
        obtain ⟨hc, -⟩ := hpP m hm
        rcases hc with ⟨p1, p2, p3, p4⟩ | ⟨p1, p2, p3, p4⟩ | ⟨p1, p2, p3, p4⟩
        · exact Or.inl ⟨p1, p2, p4⟩
        · exact Or.inr (Or.inl ⟨p1, p2, p4⟩)
        · exact Or.inr (Or.inr ⟨p1, p2, p4, by omega⟩)
      · rw [iL _ _ (by omega), s6 _ _ h, x3 _ _ (by omega)]
        rcases k4 with k4 | k4 | ⟨p1, p2, p3, p4⟩
        · exact Or.inl k4
        · exact Or.inr (Or.inl k4)
        · exact Or.inr (Or.inr ⟨p1, p2, p3, by omega⟩)
    · rw [mC, mC, dC, s6 _ _ (by omega)]; exact j2 y h3 hy
  · intro m hm
    obtain ⟨j1, j2, j3⟩ := hP m hm
    rw [lC, s4 _ _ (by omega), lL', x3 _ _ (by omega), iC _ _ (by decide) (by decide), iL _ _ (by omega)]
    exact ⟨j1, j2, j3⟩
  · intro s hs
    rw [kC, kL _ _ (by omega), iC _ _ (by decide) (by decide), kL _ _ (by omega)]
    exact hS s hs
  · intro e he
    rw [kC, kL _ _ (by omega), iC _ _ (by decide) (by decide), kL _ _ (by omega), kL _ _ (by omega), iC _ _ (by decide) (by decide)]
    exact hE e he
  · intro s hs
    obtain ⟨j1, j2⟩ := hO s hs
    simp only [kC]
    refine ⟨fun h e he h1 => ?_, fun h => ?_⟩
    · rw [kL _ _ (by omega)] at h1 ⊢
      exact j1 h e he h1
    · obtain ⟨j3, j4, j5, j6⟩ := j2 h
      rw [kL _ _ (by omega), kL _ _ (by omega)]
      refine ⟨j3, j4, j5, fun e he h1 h2 => ?_⟩
      rw [kL _ _ (by omega)] at h1 h2
      exact j6 e he h1 h2
  · intro c hc
    obtain ⟨c1, c2, c3, c4, c5, c6, c7, c8, c9, c10, c11, c12⟩ := hJC.1 c hc
    have hd := (cday c hc).1
    obtain ⟨f1, f2, f3⟩ := fl4_b σ n14 F n15 c c12
    rw [kC, kC, kC, kC, kF, i28, iC 24 _ (by decide) (by decide), iC 26 _ (by decide) (by decide), iC 27 _ (by decide) (by decide), kL _ _ (by omega), kL _ _ (by omega), kL _ _ (by omega), kL _ _ (by omega), kL _ _ (by omega), f2, f3]
    refine ⟨c1, c2, c3, c4, c5, c6, c7, c8, c9, c10, ?_, f1⟩
    rw [hd, hcve c hc]
    unfold fl4
    by_cases hy : lK σ 3 (6 * c + 2) / 100 = F
    · rw [if_pos ⟨hc, hy⟩]
      by_cases h0 : fL_covered σ n14 c = 0
      · rw [if_neg (fun z => z.2.2 h0)]
        exact ⟨fun _ => hJW.1 c hc (by omega), fun _ => h0⟩
      · rw [if_pos ⟨hc, hy, h0⟩]
        exact ⟨fun z => absurd z h0, fun z => absurd z (bits4 _ c12).2.2.2.1⟩
    · rw [if_neg (fun z => hy z.2), if_neg (fun z => hy z.2.1)]
      exact c11
  · intro c h1 h2
    rw [kF]
    unfold fl4
    rw [if_neg (by omega)]
    exact hJC.2 c h1 h2
  · intro e he
    obtain ⟨j1, c, j2, j3⟩ := hV e he
    rw [iC _ _ (by decide) (by decide)]
    exact ⟨j1, c, j2, by rw [kC]; exact j3⟩
  · intro c hc hy
    rw [hF1, kL _ _ (by omega)] at hy
    rw [kF]
    unfold fl4
    rw [if_neg (by omega)]
    exact hJW.1 c hc (by omega)
  · intro c hc hy d hd q1 q2
    rw [hF1, kL _ _ (by omega)] at hy
    rw [kL _ _ (by omega), kL _ _ (by omega)] at q1
    rw [kL _ _ (by omega), kL _ _ (by omega)] at q2
    rw [kF, kF]
    obtain ⟨c1, c2, c3, c4, c5, c6, c7, c8, c9, c10, c11, c12⟩ := hJC.1 c hc
    obtain ⟨d1, d2, d3, d4, d5, d6, d7, d8, d9, d10, d11, d12⟩ := hJC.1 d hd
    have hdd : lK σ 3 (6 * d + 2) = lK σ 3 (6 * c + 2) := by rw [← d5, ← c5, q2]
    have hcs := cov_same (hJ := hJ) hc hd q1 q2
    unfold fl4
    rw [hdd, hcs]
    by_cases hyF : lK σ 3 (6 * c + 2) / 100 = F
    · have z1 := hJW.1 c hc (by omega)
      have z2 := hJW.1 d hd (by omega)
      by_cases h0 : fL_covered σ n14 c = 0
      · rw [if_neg (fun z => z.2.2 h0), if_neg (fun z => z.2.2 h0), z1, z2]
      · rw [if_pos ⟨hd, hyF, h0⟩, if_pos ⟨hc, hyF, h0⟩, (bits4 _ c12).2.2.2.2.1, (bits4 _ d12).2.2.2.2.1]
    · rw [if_neg (fun z => hyF z.2.1), if_neg (fun z => hyF z.2.1)]
      exact hJW.2 c hc (by omega) d hd q1 q2
  · intro k hk y hy
    rw [iL _ _ (by omega), iL _ _ (by omega), iC _ _ (by decide) (by decide), iC _ _ (by decide) (by decide)]
    exact hU k hk y hy
  · intro y hy
    obtain ⟨y1, y2, y3, y4, y5, y6⟩ := hY.1 y hy
    rw [iC 31 _ (by decide) (by decide), iC 32 _ (by decide) (by decide), iC 34 _ (by decide) (by decide), iC 35 _ (by decide) (by decide), iC 36 _ (by decide) (by decide), iC 37 _ (by decide) (by decide), kL _ _ (by omega), kL _ _ (by omega), iL _ _ (by omega), iL _ _ (by omega), iL _ _ (by omega), hF1, i33]
    refine ⟨y1, y2, y3, y4, ?_, y6⟩
    by_cases h : y = F
    · rw [if_pos h]; exact ⟨fun z => absurd z n10, fun z => by omega⟩
    · rw [if_neg h, y5]; omega
  · intro y h3 hy
    rw [iC 31 _ (by decide) (by decide), i33, if_neg (by omega)]
    exact hY.2 y h3 hy
  · refine ⟨fun i hi => ?_, fun m hm => ?_⟩
    · rw [lL', hF1]
      by_cases h : i % 3 = F
      · obtain ⟨m, hm, he⟩ : ∃ m, m < 3 ∧ i = 3 * m + F := ⟨i / 3, by omega, by omega⟩
        obtain ⟨-, h1, h2⟩ := hpP m hm
        rw [he]
        exact ⟨by omega, by omega, fun z => by omega⟩
      · rw [x3 _ _ (by omega)]
        obtain ⟨h1, h2, h3⟩ := hB.1 i hi
        exact ⟨h1, h2, fun z => h3 (by omega)⟩
    · rw [lL', x3 _ _ (by omega)]
      have := hB.2 m hm
      omega
end JAD
