section JA4
variable {t : Nat} {σ : LT} {τ : CT} {q12 : Int64} {n14 n15 n16 n17 : Nat}
theorem bits2 : ∀ f, f < 8 → (f ||| 2) < 8 ∧ ((f ||| 2) &&& 1 = f &&& 1) ∧ ¬ ((f ||| 2) &&& 2 = 0) ∧ ((f ||| 2) &&& 4 = f &&& 4) := by decide
theorem bits1 : ∀ f, f < 8 → (f ||| 1) < 8 ∧ ¬ ((f ||| 1) &&& 1 = 0) ∧ ((f ||| 1) &&& 2 = f &&& 2) ∧ ((f ||| 1) &&& 4 = f &&& 4) := by decide
theorem bits4 : ∀ f, f < 8 → (f ||| 4) < 8 ∧ ((f ||| 4) &&& 1 = f &&& 1) ∧ ((f ||| 4) &&& 2 = f &&& 2) ∧ ¬ ((f ||| 4) &&& 4 = 0) ∧ ((f ||| 4) &&& 4 = 4) ∧ (f &&& 4 = 0 ∨ f &&& 4 = 4) := by decide
/-- a claim's loss and its marks anew -/
theorem JC_of (hJ : J t σ τ q12 n14 n15 n16 n17) {σ1 : LT} {τ1 : CT} {k l f : Nat} (hk : k < n15) (hl : l ≤ 100000000) (hf : f < 8) (hf4 : f &&& 4 = lK σ 3 (6 * k + 5) &&& 4)
    (g0 : ∀ c, lK σ1 3 (6 * c) = lK σ 3 (6 * c)) (g1 : ∀ c, lK σ1 3 (6 * c + 1) = lK σ 3 (6 * c + 1)) (g2 : ∀ c, lK σ1 3 (6 * c + 2) = lK σ 3 (6 * c + 2)) (g3 : ∀ c, lK σ1 3 (6 * c + 3) = if c = k then l else lK σ 3 (6 * c + 3)) (g4 : ∀ c, lK σ1 3 (6 * c + 4) = lK σ 3 (6 * c + 4)) (g5 : ∀ c, lK σ1 3 (6 * c + 5) = if c = k then f else lK σ 3 (6 * c + 5)) (gF : lF σ1 = lF σ)
    (h12 : ∀ c, cK τ1 12 c = cK τ 12 c) (h15 : ∀ c, cK τ1 15 c = cK τ 15 c) (h13 : ∀ c, cK τ1 13 c = cK τ 13 c) (h16 : ∀ c, cK τ1 16 c = cK τ 16 c) (h28 : ∀ c, cI τ1 28 c = cI τ 28 c)
    (h24 : ∀ c, cI τ1 24 c = if c = k then nI l else cI τ 24 c) (h26 : ∀ c, ¬ c = k → cI τ1 26 c = cI τ 26 c) (h26k : cI τ1 26 k = 0 ↔ f &&& 1 = 0) (h27 : ∀ c, ¬ c = k → cI τ1 27 c = cI τ 27 c) (h27k : cI τ1 27 k = 0 ↔ f &&& 2 = 0) : JC σ1 τ1 n15 n16 n17 ∧ JW σ1 n15 := by
  obtain ⟨-, -, -, -, -, -, hJC, -, hJW, -⟩ := hJ
  have e4 : ∀ c, lK σ1 3 (6 * c + 5) &&& 4 = lK σ 3 (6 * c + 5) &&& 4 := by
    intro c
    rw [g5]
    by_cases h : c = k
    · rw [if_pos h, h]; exact hf4
    · rw [if_neg h]
  refine ⟨⟨fun c hc => ?_, fun c h1 h2 => ?_⟩, fun c hc h9 => ?_, fun c hc h9 c1 hc1 h7 h8 => ?_⟩
  · obtain ⟨c1, c2, c3, c4, c5, c6, c7, c8, c9, c10, c11, c12⟩ := hJC.1 c hc
    rw [h12, h15, h13, h16, h28, h24, e4 c, g0, g1, g2, g3, g4, g5]
    by_cases h : c = k
    · subst h
      rw [if_pos rfl, if_pos rfl, if_pos rfl]
      exact ⟨c1, c2, c3, c4, c5, c6, rfl, hl, h26k, h27k, c11, hf⟩
    · rw [if_neg h, if_neg h, if_neg h, h26 c h, h27 c h]
      exact ⟨c1, c2, c3, c4, c5, c6, c7, c8, c9, c10, c11, c12⟩
  · rw [g5, if_neg (by omega)]; exact hJC.2 c h1 h2
  · rw [gF, g2] at h9
    rw [e4]; exact hJW.1 c hc h9
  · rw [gF, g2] at h9
    rw [g0, g0] at h7
    rw [g4, g4] at h8
    rw [e4, e4]
    exact hJW.2 c hc h9 c1 hc1 h7 h8
theorem f5 (σ : LT) (k f c : Nat) : lK (lSK σ 3 (6 * k + 5) f) 3 (6 * c + 5) = if c = k then f else lK σ 3 (6 * c + 5) := by
  rw [lSK_K]
  by_cases h : c = k
  · rw [if_pos ⟨rfl, by omega⟩, if_pos h]
  · rw [if_neg (by omega), if_neg h]
theorem f5n (σ : LT) (k f c j : Nat) (hj : j < 5) : lK (lSK σ 3 (6 * k + 5) f) 3 (6 * c + j) = lK σ 3 (6 * c + j) := by rw [lSK_K, if_neg (by omega)]
theorem f3 (σ : LT) (k f c : Nat) : lK (lSK σ 3 (6 * k + 3) f) 3 (6 * c + 3) = if c = k then f else lK σ 3 (6 * c + 3) := by
  rw [lSK_K]
  by_cases h : c = k
  · rw [if_pos ⟨rfl, by omega⟩, if_pos h]
  · rw [if_neg (by omega), if_neg h]
theorem f3n (σ : LT) (k f c j : Nat) (hj : j < 6) (h3 : j ≠ 3) : lK (lSK σ 3 (6 * k + 3) f) 3 (6 * c + j) = lK σ 3 (6 * c + j) := by rw [lSK_K, if_neg (by omega)]
theorem ci_s (τ : CT) (a k c : Nat) (v : Int32) : cI (cSI τ a k v) a c = if c = k then v else cI τ a c := by rw [cSI_I]; simp
theorem ci_n (τ : CT) (a b k c : Nat) (v : Int32) (h : b ≠ a) : cI (cSI τ a k v) b c = cI τ b c := by rw [cSI_I, if_neg (fun z => h z.1)]
theorem a_five (hJ : J t σ τ q12 n14 n15 n16 n17) (hW : LW σ) (hC : CW τ) (y : Int32) (h0 : 0 < n15) : Aok (t + 1) (fS913 σ τ q12 n14 n15 n16 n17 y) := by
  obtain ⟨⟨a0, a1, a2, a3, a4, a5, a6, b1, b2, b3, b4, b5⟩, hM, hP, hS, hE, hO, hJC, hV, hJW, hU, hY, hB⟩ := id hJ
  have hk := lowN_lt y h0
  unfold fS913 fS913_B986 fS913_B1065
  generalize lowN y n15 = k at hk ⊢
  obtain ⟨c1, c2, c3, c4, c5, c6, c7, c8, c9, c10, c11, c12⟩ := hJC.1 k hk
  by_cases hs : lK σ 3 (6 * k + 5) &&& 1 = 0
  · rw [if_pos hs]
    have hun : fX7_checkUnsettled τ k = .inr () := by unfold fX7_checkUnsettled; rw [if_pos (c9.mpr hs)]
    have hcl : fX7_claimOf τ (nI k) = .inr k := p_claim (by omega) (by omega)
    have B : Aok (t + 1) (if lowN (y >>> ((nI 4) &&& 31)) 3 = 1 then (lcall none (fX7_estimate τ (nI k) (nI (lowN (y >>> ((nI 6) &&& 31)) 9000000))) (fun x1015 => (if x1015.1 = (nI (lK σ 3 (6 * k + 3))) then (some ((lSK σ 3 (6 * k + 3) (lowN (y >>> ((nI 6) &&& 31)) 9000000)), x1015.2, q12, n14, n15, n16, n17)) else none))) else (lcall none (fX7_settle τ (nI k) (if lowN (y >>> ((nI 6) &&& 31)) 3 = 0 then (nI 1) else (nI 0))) (fun x1072 => (if (if lowN (y >>> ((nI 6) &&& 31)) 3 = 0 then (nI 1) else (nI 0)) = 0 then (some ((lSK σ 3 (6 * k + 5) ((lK σ 3 (6 * k + 5)) ||| 1)), x1072, q12, n14, n15, n16, n17)) else (some ((lSK (lSK σ 3 (6 * k + 5) ((lK σ 3 (6 * k + 5)) ||| 1)) 3 (6 * k + 3) 0), x1072, q12, n14, n15, n16, n17)))))) := by
      by_cases h1 : lowN (y >>> ((nI 4) &&& 31)) 3 = 1
      · have hl := lowN_lt (y >>> ((nI 6) &&& 31)) (n := 9000000) (by decide)
        rw [if_pos h1]
        generalize lowN (y >>> ((nI 6) &&& 31)) 9000000 = l at hl ⊢
        unfold fX7_estimate
        rw [hcl, xb_inr, p_loss (by omega), xb_inr, hun, xb_inr, tn_nI (by omega), lc_inr, if_pos c7]
        obtain ⟨j1, j2⟩ := JC_of hJ (σ1 := lSK σ 3 (6 * k + 3) l) (τ1 := cSI τ 24 k (nI l)) (l := l) (f := lK σ 3 (6 * k + 5)) hk (by omega) c12 rfl
          (fun c => f3n σ k l c 0 (by decide) (by decide)) (fun c => f3n σ k l c 1 (by decide) (by decide)) (fun c => f3n σ k l c 2 (by decide) (by decide)) (fun c => f3 σ k l c) (fun c => f3n σ k l c 4 (by decide) (by decide)) (fun c => by rw [f3n σ k l c 5 (by decide) (by decide)]; split <;> simp_all) rfl
          (fun c => rfl) (fun c => rfl) (fun c => rfl) (fun c => rfl) (fun c => ci_n _ _ _ _ _ _ (by decide)) (fun c => ci_s _ _ _ _ _) (fun c _ => ci_n _ _ _ _ _ _ (by decide)) (by rw [ci_n _ _ _ _ _ _ (by decide)]; exact c9) (fun c _ => ci_n _ _ _ _ _ _ (by decide)) (by rw [ci_n _ _ _ _ _ _ (by decide)]; exact c10)
        exact ⟨_, _, _, _, _, _, _, rfl, ⟨a0, a1, a2, a3, a4, a5, a6, b1, b2, b3, b4, b5⟩, hM, hP, hS, hE, hO, j1, hV, j2, hU, hY, hB.up⟩
      · rw [if_neg h1]
        obtain ⟨q1, q2, q3, q4⟩ := bits1 _ c12
        unfold fX7_settle
        by_cases h2 : lowN (y >>> ((nI 6) &&& 31)) 3 = 0
        · rw [if_pos h2, hcl, xb_inr, hun, xb_inr, if_neg n10, lc_inr, if_neg n10]
          have z6 : cI (cSI (cSI τ 26 k (nI 1)) 24 k (nI 0)) 26 k = nI 1 := by rw [ci_n _ _ _ _ _ _ (by decide), ci_s, if_pos rfl]
          obtain ⟨j1, j2⟩ := JC_of hJ (σ1 := lSK (lSK σ 3 (6 * k + 5) ((lK σ 3 (6 * k + 5)) ||| 1)) 3 (6 * k + 3) 0) (τ1 := cSI (cSI τ 26 k (nI 1)) 24 k (nI 0)) (l := 0) (f := (lK σ 3 (6 * k + 5)) ||| 1) hk (by omega) q1 q4
            (fun c => (f3n _ k 0 c 0 (by decide) (by decide)).trans (f5n _ k _ c 0 (by decide))) (fun c => (f3n _ k 0 c 1 (by decide) (by decide)).trans (f5n _ k _ c 1 (by decide))) (fun c => (f3n _ k 0 c 2 (by decide) (by decide)).trans (f5n _ k _ c 2 (by decide))) (fun c => by rw [f3, f5n σ k _ c 3 (by decide)]) (fun c => (f3n _ k 0 c 4 (by decide) (by decide)).trans (f5n _ k _ c 4 (by decide))) (fun c => (f3n _ k 0 c 5 (by decide) (by decide)).trans (f5 σ k _ c)) rfl
            (fun c => rfl) (fun c => rfl) (fun c => rfl) (fun c => rfl) (fun c => (ci_n _ _ _ _ _ _ (by decide)).trans (ci_n _ _ _ _ _ _ (by decide))) (fun c => by rw [ci_s, ci_n _ _ _ _ _ _ (by decide)]) (fun c h => by rw [ci_n _ _ _ _ _ _ (by decide), ci_s, if_neg h]) ⟨fun z => by rw [z6] at z; exact absurd z n10, fun z => absurd z q2⟩ (fun c _ => (ci_n _ _ _ _ _ _ (by decide)).trans (ci_n _ _ _ _ _ _ (by decide))) (by rw [ci_n _ _ _ _ _ _ (by decide), ci_n _ _ _ _ _ _ (by decide), q3]; exact c10)
          exact ⟨_, _, _, _, _, _, _, rfl, ⟨a0, a1, a2, a3, a4, a5, a6, b1, b2, b3, b4, b5⟩, hM, hP, hS, hE, hO, j1, hV, j2, hU, hY, hB.up⟩
        · rw [if_neg h2, hcl, xb_inr, hun, xb_inr, if_pos n00, lc_inr, if_pos n00]
          have z6 : cI (cSI τ 26 k (nI 1)) 26 k = nI 1 := by rw [ci_s, if_pos rfl]
          obtain ⟨j1, j2⟩ := JC_of hJ (σ1 := lSK σ 3 (6 * k + 5) ((lK σ 3 (6 * k + 5)) ||| 1)) (τ1 := cSI τ 26 k (nI 1)) (l := lK σ 3 (6 * k + 3)) (f := (lK σ 3 (6 * k + 5)) ||| 1) hk c8 q1 q4
            (fun c => f5n _ k _ c 0 (by decide)) (fun c => f5n _ k _ c 1 (by decide)) (fun c => f5n _ k _ c 2 (by decide)) (fun c => by rw [f5n σ k _ c 3 (by decide)]; split <;> simp_all) (fun c => f5n _ k _ c 4 (by decide)) (fun c => f5 σ k _ c) rfl
            (fun c => rfl) (fun c => rfl) (fun c => rfl) (fun c => rfl) (fun c => ci_n _ _ _ _ _ _ (by decide)) (fun c => by rw [ci_n _ _ _ _ _ _ (by decide)]; split <;> simp_all) (fun c h => by rw [ci_s, if_neg h]) ⟨fun z => by rw [z6] at z; exact absurd z n10, fun z => absurd z q2⟩ (fun c _ => ci_n _ _ _ _ _ _ (by decide)) (by rw [ci_n _ _ _ _ _ _ (by decide), q3]; exact c10)
          exact ⟨_, _, _, _, _, _, _, rfl, ⟨a0, a1, a2, a3, a4, a5, a6, b1, b2, b3, b4, b5⟩, hM, hP, hS, hE, hO, j1, hV, j2, hU, hY, hB.up⟩
    by_cases h3 : lowN (y >>> ((nI 4) &&& 31)) 3 = 0
    · rw [if_pos h3]
      by_cases h4 : lK σ 3 (6 * k + 5) &&& 2 = 0
      · rw [if_pos h4]
        obtain ⟨q1, q2, q3, q4⟩ := bits2 _ c12
        unfold fX7_broken
        rw [hcl, xb_inr, hun, xb_inr, if_pos (c10.mpr h4), lc_inr]
        have z7 : cI (cSI τ 27 k (nI 1)) 27 k = nI 1 := by rw [ci_s, if_pos rfl]
        obtain ⟨j1, j2⟩ := JC_of hJ (σ1 := lSK σ 3 (6 * k + 5) ((lK σ 3 (6 * k + 5)) ||| 2)) (τ1 := cSI τ 27 k (nI 1)) (l := lK σ 3 (6 * k + 3)) (f := (lK σ 3 (6 * k + 5)) ||| 2) hk c8 q1 q4
          (fun c => f5n _ k _ c 0 (by decide)) (fun c => f5n _ k _ c 1 (by decide)) (fun c => f5n _ k _ c 2 (by decide)) (fun c => by rw [f5n σ k _ c 3 (by decide)]; split <;> simp_all) (fun c => f5n _ k _ c 4 (by decide)) (fun c => f5 σ k _ c) rfl
          (fun c => rfl) (fun c => rfl) (fun c => rfl) (fun c => rfl) (fun c => ci_n _ _ _ _ _ _ (by decide)) (fun c => by rw [ci_n _ _ _ _ _ _ (by decide)]; split <;> simp_all) (fun c _ => ci_n _ _ _ _ _ _ (by decide)) (by rw [ci_n _ _ _ _ _ _ (by decide), q2]; exact c9) (fun c h => by rw [ci_s, if_neg h]) ⟨fun z => by rw [z7] at z; exact absurd z n10, fun z => absurd z q3⟩
        exact ⟨_, _, _, _, _, _, _, rfl, ⟨a0, a1, a2, a3, a4, a5, a6, b1, b2, b3, b4, b5⟩, hM, hP, hS, hE, hO, j1, hV, j2, hU, hY, hB.up⟩
      · rw [if_neg h4]; exact B
    · rw [if_neg h3]; exact B
  · rw [if_neg hs]; exact Aok.same hJ rfl
end JA4
