section JA2
variable {t : Nat} {σ : LT} {τ : CT} {q12 : Int64} {n14 n15 n16 n17 : Nat}
theorem lv_0 (σ : LT) (n d e : Nat) : lK (lSK σ 0 (3 * n + 2) d) 0 (3 * e) = lK σ 0 (3 * e) := by rw [lSK_K, if_neg (by omega)]
theorem lv_1 (σ : LT) (n d e : Nat) : lK (lSK σ 0 (3 * n + 2) d) 0 (3 * e + 1) = lK σ 0 (3 * e + 1) := by rw [lSK_K, if_neg (by omega)]
theorem lv_2 (σ : LT) (n d e : Nat) : lK (lSK σ 0 (3 * n + 2) d) 0 (3 * e + 2) = if e = n then d else lK σ 0 (3 * e + 2) := by
  rw [lSK_K]
  by_cases h : e = n
  · rw [if_pos ⟨rfl, by omega⟩, if_pos h]
  · rw [if_neg (by omega), if_neg h]
theorem a_leave (hJ : J t σ τ q12 n14 n15 n16 n17) (hW : LW σ) (hC : CW τ) {s : Nat} (hs : s < 5) : Aok (t + 1) (fS516 σ τ q12 n14 n15 n16 n17 s) := by
  obtain ⟨⟨a0, a1, a2, a3, a4, a5, a6, b1, b2, b3, b4, b5⟩, hM, hP, hS, hE, hO, hJC, hV, hJW, hU, hY, hB⟩ := id hJ
  have L : ∀ n k, k + n = n14 → fS516_L522 σ τ q12 n14 n15 n16 n17 s n k (opV σ s k) = fS516_L522 σ τ q12 n14 n15 n16 n17 s 0 n14 (opV σ s n14) := by
    intro n
    induction n with
    | zero => intro k hk; have hk : k = n14 := by omega
              rw [hk]
    | succ n ih =>
      intro k hk
      have := ih (k + 1) (by omega)
      exact this
  unfold fS516
  rw [show (-1 : Int32) = opV σ s 0 from rfl, L n14 0 (by omega)]
  simp only [fS516_L522]
  unfold fL_tried3 fX7_leave
  rw [p_ship (by rw [a1]; exact hs) (by rw [a1]; decide), xb_inr, a5]
  obtain ⟨o1, o2⟩ := op_eq hJ hs
  by_cases h14 : cK τ 14 s = 0
  · rw [if_pos h14, o1 h14, if_neg (show ¬ (0 : Int32) ≤ -1 by decide), tr_no, lc_inr]
    unfold fS516_B593
    rw [if_pos rfl, if_pos (by decide)]
    exact Aok.same hJ rfl
  · obtain ⟨y0, y1, y2, y3⟩ := (hO s hs).2 h14
    obtain ⟨e1, e2, e3, e4⟩ := hE (cK τ 14 s - 1) (by omega)
    rw [if_neg h14, o2 h14, if_pos (nI_pos' (by omega)), tr_ok, lc_inr, tn_nI (by omega), e2]
    unfold fS516_B593
    rw [if_pos rfl, if_neg (nI_pos (by omega)), tn_nI (by omega)]
    generalize hk : cK τ 14 s - 1 = e0 at *
    refine ⟨_, _, _, _, _, _, _, rfl, ⟨a0, a1, a2, a3, a4, a5, a6, b1, b2, b3, b4, b5⟩, hM, hP, hS, ?_, ?_, hJC, hV, hJW, hU, hY, hB.up⟩
    · intro e he
      obtain ⟨g1, g2, g3, g4⟩ := hE e he
      show cK τ 11 e = lK (lSK σ 0 (3 * e0 + 2) n17) 0 (3 * e) ∧ cI τ 22 e = nI (lK (lSK σ 0 (3 * e0 + 2) n17) 0 (3 * e + 1)) ∧ lK (lSK σ 0 (3 * e0 + 2) n17) 0 (3 * e + 1) ≤ n17 ∧ ((lK (lSK σ 0 (3 * e0 + 2) n17) 0 (3 * e + 2) = 9999 ∧ (if 23 = 23 ∧ e = e0 then nI n17 else cI τ 23 e) = nI 2000) ∨ (lK (lSK σ 0 (3 * e0 + 2) n17) 0 (3 * e + 2) ≤ n17 ∧ (if 23 = 23 ∧ e = e0 then nI n17 else cI τ 23 e) = nI (lK (lSK σ 0 (3 * e0 + 2) n17) 0 (3 * e + 2))))
      rw [lv_0, lv_1, lv_2]
      refine ⟨g1, g2, g3, ?_⟩
      by_cases h : e = e0
      · rw [if_pos h, if_pos ⟨rfl, h⟩]; exact Or.inr ⟨Nat.le_refl _, rfl⟩
      · rw [if_neg h, if_neg (fun z => h z.2)]; exact g4
    · intro z hz
      obtain ⟨z1, z2⟩ := hO z hz
      show ((if 14 = 14 ∧ z = s then 0 else cK τ 14 z) = 0 → ∀ e, e < n14 → lK (lSK σ 0 (3 * e0 + 2) n17) 0 (3 * e) = z → lK (lSK σ 0 (3 * e0 + 2) n17) 0 (3 * e + 2) ≠ 9999) ∧ ((if 14 = 14 ∧ z = s then 0 else cK τ 14 z) ≠ 0 → (if 14 = 14 ∧ z = s then 0 else cK τ 14 z) ≤ n14 ∧ lK (lSK σ 0 (3 * e0 + 2) n17) 0 (3 * ((if 14 = 14 ∧ z = s then 0 else cK τ 14 z) - 1)) = z ∧ lK (lSK σ 0 (3 * e0 + 2) n17) 0 (3 * ((if 14 = 14 ∧ z = s then 0 else cK τ 14 z) - 1) + 2) = 9999 ∧ ∀ e, e < n14 → lK (lSK σ 0 (3 * e0 + 2) n17) 0 (3 * e) = z → lK (lSK σ 0 (3 * e0 + 2) n17) 0 (3 * e + 2) = 9999 → e = (if 14 = 14 ∧ z = s then 0 else cK τ 14 z) - 1)
      by_cases hzs : z = s
      · rw [if_pos ⟨rfl, hzs⟩]
        refine ⟨fun _ e he h1 => ?_, fun q => absurd rfl q⟩
        rw [lv_0] at h1
        rw [lv_2]
        by_cases h : e = e0
        · rw [if_pos h]; omega
        · rw [if_neg h]
          exact fun z9 => h (y3 e he (by rw [h1]; exact hzs) z9)
      · rw [if_neg (fun q => hzs q.2)]
        refine ⟨fun q e he h1 => ?_, fun q => ?_⟩
        · rw [lv_0] at h1
          rw [lv_2, if_neg (fun w => hzs (by rw [w] at h1; rw [← h1]; exact y1))]
          exact z1 q e he h1
        · obtain ⟨w0, w1, w2, w3⟩ := z2 q
          refine ⟨w0, ?_, ?_, fun e he h1 h2 => ?_⟩
          · rw [lv_0]; exact w1
          · rw [lv_2, if_neg (fun w => hzs (by rw [w] at w1; rw [← w1]; exact y1))]; exact w2
          · rw [lv_0] at h1
            rw [lv_2, if_neg (fun w => hzs (by rw [w] at h1; rw [← h1]; exact y1))] at h2
            exact w3 e he h1 h2
theorem a_pass (hJ : J t σ τ q12 n14 n15 n16 n17) (hW : LW σ) (hC : CW τ) (y : Int32) : Aok (t + 1) (fS2518 σ τ q12 n14 n15 n16 n17 y) := by
  obtain ⟨⟨a0, a1, a2, a3, a4, a5, a6, b1, b2, b3, b4, b5⟩, hM, hP, hS, hE, hO, hJC, hV, hJW, hU, hY, hB⟩ := id hJ
  have hl := lowN_lt y (n := 40) (by decide)
  unfold fS2518
  by_cases h : 300 ≤ n17 + (1 + lowN y 40)
  · rw [if_pos h]; exact Aok.same hJ rfl
  · rw [if_neg h]
    unfold fX7_pass
    rw [p_in (1 + lowN y 40) rfl (by omega) (by omega) (by decide), xb_inr, tn_nI (by omega), a5, if_pos (nI_lt (by omega) (by decide)), lc_inr, if_pos rfl]
    refine ⟨_, _, _, _, _, _, _, rfl, ⟨a0, a1, a2, a3, a4, ?_, a6, b1, b2, b3, by show n17 + (1 + lowN y 40) < 300; omega, by show 100 * lF σ ≤ n17 + (1 + lowN y 40); omega⟩, hM, hP, hS, ?_, hO, ⟨?_, hJC.2⟩, hV, hJW, hU, hY, hB.up⟩
    · rfl
    · intro e he
      obtain ⟨g1, g2, g3, g4⟩ := hE e he
      refine ⟨g1, g2, Nat.le_trans (by assumption) (Nat.le_add_right n17 _), ?_⟩
      rcases g4 with ⟨g4, g5⟩ | ⟨g4, g5⟩
      · exact Or.inl ⟨g4, g5⟩
      · exact Or.inr ⟨Nat.le_trans (by assumption) (Nat.le_add_right n17 _), g5⟩
    · intro c hc
      obtain ⟨c1, c2, c3, c4, c5, c6, c7⟩ := hJC.1 c hc
      exact ⟨c1, c2, c3, c4, c5, Nat.le_trans (by assumption) (Nat.le_add_right n17 _), c7⟩
end JA2
