section JAC
variable {t : Nat} {σ : LT} {τ : CT} {q12 : Int64} {n14 n15 n16 n17 : Nat}
theorem l_zadd (a : Int64) : (0 : Int64) + a = a := Int64.zero_add a
theorem shut_run (hJ : J t σ τ q12 n14 n15 n16 n17) (hW : LW σ) (hC : CW τ) (hF : lF σ < 3) (τC : CT) : ∃ σf σ1 q1, FX σ n14 (lF σ) n15 σf ∧ fS2170 σ τC q12 n14 n15 n16 n17 (lF σ) (fL_cost σ n14 n15 n16 (lF σ)) = some (lSI σ1 7 12 (nI (lF σ + 1)), τC, q1, n14, n15, n16, n17) ∧ σ1.2.2 = σf.2.2 ∧ (∀ a b, (a ≠ 7 ∨ 9 ≤ b ∨ b % 3 ≠ lF σ) → lI σ1 a b = lI σ a b) ∧ (∀ a b, (a ≠ 8 ∨ b % 3 ≠ lF σ) → lL σ1 a b = lL σ a b) ∧
    ∃ τs, fX7_share τ (lF σ) (fX7_costIn τ (nI (lF σ)) - fX7_dueOfReleased τ (lF σ)) = τs ∧ τs.1 = τ.1 ∧ τs.2.2.1 = τ.2.2.1 ∧ τs.2.2.2.1 = τ.2.2.2.1 ∧ (∀ a b, (a ≠ 0 ∨ b ≠ 0) → cL τs a b = cL τ a b) ∧ cL τs 0 0 = q1 ∧ (∀ m y, y ≠ lF σ → cD τs m y = cD τ m y) ∧ ∀ m, m < 3 → pP τ (lF σ) 7000000000 m σ1 τs := by
  obtain ⟨⟨a0, a1, a2, a3, a4, a5, a6, b1, b2, b3, b4, b5⟩, hM, hP, hS, hE, hO, hJC, hV, hJW, hU, hY, hB⟩ := id hJ
  obtain ⟨ec, w, hw, hwc⟩ := c_eq hJ hW hC hF
  generalize hFF : lF σ = F at *
  obtain ⟨σf, e1, hFX⟩ := flag_loop (n14 := n14) (n15 := n15) (q12 := q12) (n16 := n16) (n17 := n17) σ τC F (fL_cost σ n14 n15 n16 F) n15 0 σ (by omega) ⟨rfl, rfl, fun _ _ _ => rfl, fun c => (if_neg (by omega)).symm⟩
  obtain ⟨x1, x2, x3, x4⟩ := id hFX
  have hIf : ∀ a b, lI σf a b = lI σ a b := fun a b => show σf.1 a b = σ.1 a b by rw [x1]
  have hLf : ∀ a b, lL σf a b = lL σ a b := fun a b => show σf.2.1 a b = σ.2.1 a b by rw [x2]
  have hwf : ∀ m, fL_weight σf n14 m F = fL_weight σ n14 m F := fun m => w_cg (fun a b h => x3 a b (by omega)) _ _ _
  -- weights and rows
  obtain ⟨W, hWW⟩ : ∃ W : Nat → Nat, ∀ m, m < 3 → fL_weight σ n14 m F = lN (W m) ∧ fX7_weightIn τ m F = lN (W m) ∧ W m ≤ 5994000 := by
    refine ⟨fun m => (fL_weight σ n14 m F).toInt.toNat, fun m hm => ?_⟩
    obtain ⟨h1, w, h2, h3⟩ := w_eq hJ hW hm hF
    have : (fL_weight σ n14 m F).toInt.toNat = w := by rw [h3, lN_toInt (by omega)]; omega
    refine ⟨?_, ?_, ?_⟩
    · show fL_weight σ n14 m F = lN (fL_weight σ n14 m F).toInt.toNat
      rw [this]; exact h3
    · show fX7_weightIn τ m F = lN (fL_weight σ n14 m F).toInt.toNat
      rw [this, h1]; exact h3
    · show (fL_weight σ n14 m F).toInt.toNat ≤ 5994000
      rw [this]; exact h2
  obtain ⟨rr, hrr⟩ : ∃ rr : Nat → Int64, rr = fun m => if lI σ 7 (3 * m + F) = nI 1 then lL σ 8 (3 * m + F) else 0 := ⟨_, rfl⟩
  obtain ⟨tt, htt⟩ : ∃ tt : Nat → Nat, tt = fun m => if lI σ 7 (3 * m + F) = nI 1 then 0 else W m := ⟨_, rfl⟩
  have hst : ∀ m, m < 3 → (lI σ 7 (3 * m + F) = nI 0 ∧ cM τ 1 m F = 0 ∧ cD τ m F = 0) ∨ (lI σ 7 (3 * m + F) = nI 1 ∧ cM τ 1 m F = 1 ∧ cD τ m F = lL σ 8 (3 * m + F)) := fun m hm => by
    obtain ⟨-, -, -, h⟩ := (hM m hm).1 F hF
    rcases h with h | h | ⟨-, -, -, h⟩
    · exact Or.inl h
    · exact Or.inr h
    · omega
  have hlb : ∀ m, m < 3 → -1000000000 ≤ (lL σ 8 (3 * m + F)).toInt ∧ (lL σ 8 (3 * m + F)).toInt ≤ 1000000000 := fun m hm => (hB.1 (3 * m + F) (by omega)).2.2 (by omega)
  have sL1 : ∀ m (a : Int64), (if lI σf 7 (3 * m + F) = nI 1 then a - lL σf 8 (3 * m + F) else a) = a - rr m := fun m a => by
    rw [hrr, hIf, hLf]
    show _ = a - (if lI σ 7 (3 * m + F) = nI 1 then lL σ 8 (3 * m + F) else 0)
    by_cases h : lI σ 7 (3 * m + F) = nI 1
    · rw [if_pos h, if_pos h]
    · rw [if_neg h, if_neg h, Int64.sub_zero]
  have sL2 : ∀ m, m < 3 → ∀ (a : Int64), (if lI σf 7 (3 * m + F) = nI 1 then a else a + fL_weight σf n14 m F) = a + lN (tt m) := fun m hm a => by
    rw [htt, hIf, hwf, (hWW m hm).1]
    show _ = a + lN (if lI σ 7 (3 * m + F) = nI 1 then 0 else W m)
    by_cases h : lI σ 7 (3 * m + F) = nI 1
    · rw [if_pos h, if_pos h]; exact (Int64.add_zero a).symm
    · rw [if_neg h, if_neg h]
  have sC1 : ∀ m, m < 3 → ∀ (a : Int64), (if cM τ 1 m F = 0 then a else a + cD τ m F) = a + rr m := fun m hm a => by
    rw [hrr]
    show _ = a + (if lI σ 7 (3 * m + F) = nI 1 then lL σ 8 (3 * m + F) else 0)
    rcases hst m hm with ⟨g1, g2, g3⟩ | ⟨g1, g2, g3⟩
    · rw [g2, if_pos rfl, if_neg (by rw [g1]; decide)]; exact (Int64.add_zero a).symm
    · rw [g2, if_neg (by decide), if_pos g1, g3]
  have hbS : ∀ T, (∀ m, m < 3 → tt m ≤ T) → ∀ m, m < 3 → bS σf τ n14 F W T m σf τ := fun T hT m hm => by
    unfold bS
    rw [hIf, hLf, hwf]
    refine ⟨?_, (hlb m hm).1, (hlb m hm).2, hWW m hm⟩
    rcases hst m hm with ⟨g1, g2, g3⟩ | h
    · have := hT m hm
      rw [htt] at this
      simp only [g1, if_neg (show ¬ nI 0 = nI 1 by decide)] at this
      exact Or.inl ⟨g1, g2, g3, this⟩
    · exact Or.inr h
  have sC2 : ∀ m, m < 3 → ∀ (a : Int64), (if fX7_isShared τ m F = 0 then a else a + fX7_weightIn τ m F) = a + lN (tt m) := fun m hm a => by
    have hsh := (hbS (tt 0 + tt 1 + tt 2) (fun m hm => by rcases (show m = 0 ∨ m = 1 ∨ m = 2 by omega) with h | h | h <;> rw [h] <;> omega) m hm).sh
    rw [hIf] at hsh
    rw [htt, (hWW m hm).2.1]
    show _ = a + lN (if lI σ 7 (3 * m + F) = nI 1 then 0 else W m)
    rcases hst m hm with ⟨g1, g2, g3⟩ | ⟨g1, g2, g3⟩
    · rw [if_neg (show ¬ lI σ 7 (3 * m + F) = nI 1 by rw [g1]; decide)]
      by_cases h0 : W m = 0
      · rw [if_pos ((hsh.1 g1).mpr h0), h0]; exact (Int64.add_zero a).symm
      · rw [if_neg (fun z => h0 ((hsh.1 g1).mp z))]
    · rw [if_pos g1, if_pos (hsh.2 g1)]; exact (Int64.add_zero a).symm
  have hdue : fX7_dueOfReleased τ F = rr 0 + rr 1 + rr 2 := by
    unfold fX7_dueOfReleased
    rw [a0]
    show (if cM τ 1 2 F = 0 then (if cM τ 1 1 F = 0 then (if cM τ 1 0 F = 0 then (0 : Int64) else (0 : Int64) + cD τ 0 F) else (if cM τ 1 0 F = 0 then (0 : Int64) else (0 : Int64) + cD τ 0 F) + cD τ 1 F) else (if cM τ 1 1 F = 0 then (if cM τ 1 0 F = 0 then (0 : Int64) else (0 : Int64) + cD τ 0 F) else (if cM τ 1 0 F = 0 then (0 : Int64) else (0 : Int64) + cD τ 0 F) + cD τ 1 F) + cD τ 2 F) = _
    rw [sC1 0 (by decide), sC1 1 (by decide), sC1 2 (by decide), l_zadd]
  have htb : ∀ m, m < 3 → tt m ≤ 5994000 := fun m hm => by
    rw [htt]
    show (if lI σ 7 (3 * m + F) = nI 1 then 0 else W m) ≤ 5994000
    have := (hWW m hm).2.2
    split <;> omega
  have hrb : ∀ m, m < 3 → -1000000000 ≤ (rr m).toInt ∧ (rr m).toInt ≤ 1000000000 := fun m hm => by
    rw [hrr]
    show -1000000000 ≤ (if lI σ 7 (3 * m + F) = nI 1 then lL σ 8 (3 * m + F) else 0).toInt ∧ (if lI σ 7 (3 * m + F) = nI 1 then lL σ 8 (3 * m + F) else 0).toInt ≤ 1000000000
    split
    · exact hlb m hm
    · show (-1000000000 : Int) ≤ 0 ∧ (0 : Int) ≤ 1000000000; omega
  have t0 := htb 0 (by decide)
  have t1 := htb 1 (by decide)
  have t2 := htb 2 (by decide)
  obtain ⟨T, hTT⟩ : ∃ T, T = tt 0 + tt 1 + tt 2 := ⟨_, rfl⟩
  obtain ⟨X, hXX⟩ : ∃ X, X = fL_cost σ n14 n15 n16 F - rr 0 - rr 1 - rr 2 := ⟨_, rfl⟩
  have hXe : fX7_costIn τ (nI F) - fX7_dueOfReleased τ F = X := by
    rw [hdue, ec, hXX]
    simp only [Int64.sub_eq_add_neg, Int64.neg_add, Int64.add_assoc]
  have hXb : -5000000000 ≤ X.toInt ∧ X.toInt ≤ 5000000000 := by
    have r0 := hrb 0 (by decide)
    have r1 := hrb 1 (by decide)
    have r2 := hrb 2 (by decide)
    have u0 : (fL_cost σ n14 n15 n16 F).toInt = w := by rw [hwc, lN_toInt (by omega)]
    have u1 := lE_sub u0 (b := rr 0) rfl (by omega) (by omega)
    have u2 := lE_sub u1 (b := rr 1) rfl (by omega) (by omega)
    have u3 := lE_sub u2 (b := rr 2) rfl (by omega) (by omega)
    rw [hXX, u3]; omega
  have hT3 : ∀ m, m < 3 → tt m ≤ T := fun m hm => by rcases (show m = 0 ∨ m = 1 ∨ m = 2 by omega) with h | h | h <;> rw [h] <;> omega
  have hlaw : fS2170_L2240 σ τC q12 n14 n15 n16 n17 F (fL_cost σ n14 n15 n16 F) σf 3 0 (fL_cost σ n14 n15 n16 F) (0 : Int64) = fS2170_L2323 σ τC q12 n14 n15 n16 n17 F (fL_cost σ n14 n15 n16 F) X (lN T) (if lN T = (0 : Int64) then q12 - X else q12) 3 0 X σf := by
    have st : ∀ n k a b, k < 3 → fS2170_L2240 σ τC q12 n14 n15 n16 n17 F (fL_cost σ n14 n15 n16 F) σf (n + 1) k a b = fS2170_L2240 σ τC q12 n14 n15 n16 n17 F (fL_cost σ n14 n15 n16 F) σf n (k + 1) (a - rr k) (b + lN (tt k)) := fun n k a b hk => by
      show fS2170_L2240 σ τC q12 n14 n15 n16 n17 F (fL_cost σ n14 n15 n16 F) σf n (k + 1) (if lI σf 7 (3 * k + F) = nI 1 then a - lL σf 8 (3 * k + F) else a) (if lI σf 7 (3 * k + F) = nI 1 then b else b + fL_weight σf n14 k F) = _
      rw [sL1, sL2 k hk]
    rw [st 2 0 _ _ (by decide), st 1 (0 + 1) _ _ (by decide), st 0 (0 + 1 + 1) _ _ (by decide), l_zadd, lN_add, lN_add, show tt 0 + tt (0 + 1) + tt (0 + 1 + 1) = T from hTT.symm, show fL_cost σ n14 n15 n16 F - rr 0 - rr (0 + 1) - rr (0 + 1 + 1) = X from hXX.symm]
    rfl
  have hcls : fX7_share τ F X = if (0 : Int64) < lN T then fX7_share_L77 τ F X (lN T) 3 0 X τ else cSL τ 0 0 (cL τ 0 0 - X) := by
    unfold fX7_share
    rw [a0]
    have st : ∀ n k a, k < 3 → fX7_share_L6 τ F X (n + 1) k a = fX7_share_L6 τ F X n (k + 1) (a + lN (tt k)) := fun n k a hk => by
      show fX7_share_L6 τ F X n (k + 1) (if fX7_isShared τ k F = 0 then a else a + fX7_weightIn τ k F) = _
      rw [sC2 k hk]
    rw [st 2 0 _ (by decide), st 1 (0 + 1) _ (by decide), st 0 (0 + 1 + 1) _ (by decide), l_zadd, lN_add, lN_add, show tt 0 + tt (0 + 1) + tt (0 + 1 + 1) = T from hTT.symm]
    show (if (0 : Int64) < lN T then fX7_share_L77 τ F X (lN T) (cN τ 0) 0 X τ else cSL τ 0 0 (cL τ 0 0 - X)) = _
    rw [a0]
  unfold fS2170
  rw [e1, hlaw, hXe, hcls]
  have hSX : SX σf τ F σf τ := ⟨rfl, fun _ _ _ => rfl, fun _ _ _ => rfl, cD τ, rfl, fun _ _ _ => rfl⟩
  by_cases hT0 : T = 0
  · have z1 : lN T ≤ (0 : Int64) := (lN_le0 (by omega)).mpr hT0
    have z2 : lN T = (0 : Int64) := (lN_eq0 (by omega)).mpr hT0
    rw [if_pos z2, if_neg (by rw [z2]; decide)]
    refine ⟨σf, σf, q12 - X, hFX, ?_, rfl, fun a b _ => hIf a b, fun a b _ => hLf a b, _, rfl, rfl, rfl, rfl, fun a b h => ?_, ?_, fun _ _ _ => rfl, fun m hm => ?_⟩
    · simp only [fS2170_L2323]
      unfold fS2170_S2323
      rw [if_pos z1, lb_inr]
      unfold fS2170_B2440
      simp only [fS2170_L2443]
      unfold fS2170_S2443
      rw [if_pos z1, lb_inr]
      rfl
    · rw [cSL_L, if_neg (by omega)]
    · rw [cSL_L, if_pos ⟨rfl, rfl⟩, a6]
    · have hb := hbS T hT3 m hm
      have hz : fX7_isShared τ m F = 0 := by
        have hsh := hb.sh
        rcases hb.1 with ⟨g1, -, -, g4⟩ | ⟨g1, -, -⟩
        · exact (hsh.1 g1).mpr (by omega)
        · exact hsh.2 g1
      exact hb.pP0 hz 7000000000 (by decide)
  · have z1 : ¬ lN T ≤ (0 : Int64) := fun z => hT0 ((lN_le0 (by omega)).mp z)
    have z2 : ¬ lN T = (0 : Int64) := fun z => hT0 ((lN_eq0 (by omega)).mp z)
    rw [if_neg z2, if_pos (by rw [Int64.lt_iff_toInt_lt]; rw [Int64.le_iff_toInt_le] at z1; omega)]
    obtain ⟨σ1, τ1, p1, p2, p3, p4⟩ := share_loop (n14 := n14) (n15 := n15) (n16 := n16) (n17 := n17) (q12 := q12) hF σ τC (fL_cost σ n14 n15 n16 F) X q12 (W := W) (T := T) (by omega) (by omega) hXb a0 3 0 X σf τ rfl hSX (fun m hm => by omega) (fun m _ hm => hbS T hT3 m hm)
    obtain ⟨s1, s2, s3, d, s4, s5⟩ := p3
    refine ⟨σf, σ1, q12, hFX, p1, s1, fun a b h => by rw [s2 a b h, hIf], fun a b h => by rw [s3 a b h, hLf], τ1, p2, ?_⟩
    rw [s4] at p4 ⊢
    exact ⟨rfl, rfl, rfl, fun _ _ _ => rfl, a6, s5, p4⟩
end JAC
