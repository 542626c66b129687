section JAF
def σS0 : LT := (fun _ _ => 0, fun _ _ => 0, fun _ _ => 0)
/-- the class with k members and no more -/
def MS (k : Nat) (τ : CT) : Prop := cN τ 0 = k ∧ (∀ a b, ¬ (a = 0 ∧ b = 0) → cK τ a b = 0) ∧ (∀ a b, cI τ a b = if a = 20 ∧ b < k then -1 else if a = 39 ∧ b < 80 then -1 else 0) ∧ (∀ a b, cL τ a b = 0) ∧ (∀ a m y, m < k → cM τ a m y = if a = 0 ∧ y < 20 then nI 100 else 0) ∧ ∀ m y, cD τ m y = 0
theorem MS0 : MS 0 cS0 := by
  refine ⟨rfl, fun _ _ _ => rfl, fun a b => ?_, fun _ _ => rfl, fun a m y h => absurd h (Nat.not_lt_zero m), fun _ _ => rfl⟩
  rw [if_neg (by omega)]
  show (if a = 39 then xfil (-1) (fun _ => 0) 80 b else 0) = _
  unfold xfil
  by_cases h : a = 39
  · by_cases h2 : b < 80
    · rw [if_pos h, if_pos h2, if_pos ⟨h, h2⟩]
    · rw [if_pos h, if_neg h2, if_neg (fun z => h2 z.2)]
  · rw [if_neg h, if_neg (fun z => h z.1)]
theorem MS.step {k : Nat} {τ : CT} (h : MS k τ) : MS (k + 1) (cNewM τ) := by
  obtain ⟨h1, h2, h3, h4, h5, h6⟩ := h
  refine ⟨by rw [cNewM_N, h1], fun a b hab => ?_, fun a b => ?_, fun a b => ?_, fun a m y hm => ?_, fun m y => ?_⟩
  · rw [cNewM_K, if_neg hab]; exact h2 a b hab
  · rw [cNewM_I, h1, h3]
    by_cases ha : a = 20
    · subst ha
      by_cases hb : b = k
      · rw [if_pos ⟨rfl, hb⟩, if_pos ⟨rfl, by omega⟩]
      · rw [if_neg (fun z => hb z.2)]
        by_cases hb2 : b < k
        · rw [if_pos ⟨rfl, hb2⟩, if_pos ⟨rfl, by omega⟩]
        · rw [if_neg (fun z => hb2 z.2), if_neg (show ¬ (20 = 39 ∧ b < 80) by omega), if_neg (show ¬ (20 = 20 ∧ b < k + 1) by omega)]
    · rw [if_neg (fun z => ha z.1), if_neg (fun z => ha z.1), if_neg (show ¬ (a = 20 ∧ b < k + 1) from fun z => ha z.1)]
  · rw [cNewM_L, h4]; split <;> rfl
  · rw [cNewM_M, h1]
    by_cases hk : m = k
    · rw [if_pos hk]
      unfold xfil
      by_cases ha : a = 0
      · by_cases hy : y < 20
        · rw [if_pos ha, if_pos hy, if_pos ⟨ha, hy⟩]
        · rw [if_pos ha, if_neg hy, if_neg (fun z => hy z.2)]
      · rw [if_neg ha, if_neg (fun z => ha z.1)]
    · rw [if_neg hk]; exact h5 a m y (by omega)
  · rw [cNewM_D, h6]; split <;> rfl
theorem i_members (xs : Nat → Int32) (L : Nat) (σ : LT) (τ0 : CT) : ∀ n k τ, k + n = 3 → MS k τ → ∃ τ1, fSI_L86 xs L σ τ0 n k τ = fSI_L112 xs L σ τ0 5 0 σ τ1 ∧ MS 3 τ1 := by
  intro n
  induction n with
  | zero =>
    intro k τ hk h
    have hk : k = 3 := by omega
    subst hk
    exact ⟨τ, rfl, h⟩
  | succ n ih =>
    intro k τ hk h
    simp only [fSI_L86]
    unfold fSI_S86 fX7_member
    rw [h.1, if_pos (nI_lt (by omega) (by decide)), lc_inr, cNewM_N, h.1]
    rw [if_pos (show nI (k + 1) - nI 1 = nI k by rw [pk_sub (by omega)]; rfl), lb_inl]
    exact ih (k + 1) _ (by omega) h.step
/-- the class with its members and k ships, beside the law's rows -/
def SS (k : Nat) (σ : LT) (τ : CT) : Prop := (cN τ 0 = 3 ∧ cN τ 1 = k ∧ cN τ 2 = 0 ∧ cN τ 3 = 0 ∧ cN τ 4 = 0 ∧ cN τ 5 = 0) ∧ (∀ s, s < k → cK τ 10 s = lK σ 1 s ∧ cI τ 21 s = nI (lK σ 1 (8 + s)) ∧ 1 ≤ lK σ 1 (8 + s)) ∧ (∀ s, cK τ 14 s = 0) ∧ (∀ a b, a ≠ 21 → cI τ a b = if a = 20 ∧ b < 3 then -1 else if a = 39 ∧ b < 80 then -1 else 0) ∧ (∀ a b, cL τ a b = 0) ∧ (∀ a m y, m < 3 → cM τ a m y = if a = 0 ∧ y < 20 then nI 100 else 0) ∧ (∀ m y, cD τ m y = 0) ∧ (∀ a b, lI σ a b = 0) ∧ (∀ a b, lL σ a b = 0) ∧ ∀ a b, a ≠ 1 → lK σ a b = 0
theorem SS0 {τ : CT} (h : MS 3 τ) : SS 0 σS0 τ := by
  obtain ⟨h1, h2, h3, h4, h5, h6⟩ := h
  exact ⟨⟨h1, h2 1 0 (by decide), h2 2 0 (by decide), h2 3 0 (by decide), h2 4 0 (by decide), h2 5 0 (by decide)⟩, fun s hs => absurd hs (Nat.not_lt_zero s), fun s => h2 14 s (by omega), fun a b _ => h3 a b, h4, h5, h6, fun _ _ => rfl, fun _ _ => rfl, fun _ _ _ => rfl⟩
theorem i_ships (xs : Nat → Int32) (L : Nat) (σ0 : LT) (τ0 : CT) : ∀ n k σ τ, k + n = 5 → SS k σ τ → ∃ σ1 τ1, fSI_L112 xs L σ0 τ0 n k σ τ = fSI_L186 xs L σ0 τ0 τ1 9 0 σ1 ∧ SS 5 σ1 τ1 := by
  intro n
  induction n with
  | zero =>
    intro k σ τ hk h
    have hk : k = 5 := by omega
    subst hk
    exact ⟨σ, τ, rfl, h⟩
  | succ n ih =>
    intro k σ τ hk h
    obtain ⟨⟨a0, a1, a2, a3, a4, a5⟩, h2, h3, h4, h5, h6, h7, h8, h9, h10⟩ := h
    simp only [fSI_L112]
    unfold fSI_S112
    have hm : lowN (fL_cell xs L k) 3 < 3 := lowN_lt _ (by decide)
    have ht : lowN (fL_cell xs L k >>> (nI 3 &&& 31)) 999 < 999 := lowN_lt _ (by decide)
    have r1 : lK (lSK (lSK σ 1 k (lowN (fL_cell xs L k) 3)) 1 (8 + k) (1 + lowN (fL_cell xs L k >>> (nI 3 &&& 31)) 999)) 1 k = lowN (fL_cell xs L k) 3 := by
      rw [lSK_K, if_neg (by omega), lSK_K, if_pos ⟨rfl, rfl⟩]
    have r2 : lK (lSK (lSK σ 1 k (lowN (fL_cell xs L k) 3)) 1 (8 + k) (1 + lowN (fL_cell xs L k >>> (nI 3 &&& 31)) 999)) 1 (8 + k) = 1 + lowN (fL_cell xs L k >>> (nI 3 &&& 31)) 999 := by
      rw [lSK_K, if_pos ⟨rfl, rfl⟩]
    have r3 : ∀ j, j < k → lK (lSK (lSK σ 1 k (lowN (fL_cell xs L k) 3)) 1 (8 + k) (1 + lowN (fL_cell xs L k >>> (nI 3 &&& 31)) 999)) 1 j = lK σ 1 j := fun j hj => by
      rw [lSK_K, if_neg (by omega), lSK_K, if_neg (by omega)]
    have r4 : ∀ j, j < k → lK (lSK (lSK σ 1 k (lowN (fL_cell xs L k) 3)) 1 (8 + k) (1 + lowN (fL_cell xs L k >>> (nI 3 &&& 31)) 999)) 1 (8 + j) = lK σ 1 (8 + j) := fun j hj => by
      rw [lSK_K, if_neg (by omega), lSK_K, if_neg (by omega)]
    have r5 : ∀ a b, a ≠ 1 → lK (lSK (lSK σ 1 k (lowN (fL_cell xs L k) 3)) 1 (8 + k) (1 + lowN (fL_cell xs L k >>> (nI 3 &&& 31)) 999)) a b = lK σ a b := fun a b hab => by
      rw [lSK_K, if_neg (fun z => hab z.1), lSK_K, if_neg (fun z => hab z.1)]
    rw [r1, r2]
    generalize lowN (fL_cell xs L k) 3 = M at *
    generalize lowN (fL_cell xs L k >>> (nI 3 &&& 31)) 999 = T at *
    unfold fX7_ship
    rw [p_member (by rw [a0]; exact hm) (by rw [a0]; decide), xb_inr, p_in (1 + T) rfl (by omega) (by omega) (by decide), xb_inr, a1, if_pos (nI_lt (by omega) (by decide)), lc_inr, tn_nI (by omega), cNewS_N, a1]
    rw [if_pos (show nI (k + 1) - nI 1 = nI k by rw [pk_sub (by omega)]; rfl), lb_inl]
    refine ih (k + 1) _ _ (by omega) ⟨⟨by rw [cNewS_N0, a0], by rw [cNewS_N, a1], by rw [cNewS_N2, a2], by rw [cNewS_N3, a3], by rw [cNewS_N4, a4], by rw [cNewS_N5, a5]⟩, fun s hs => ?_, fun s => ?_, fun a b hab => ?_, fun a b => ?_, fun a m y hm => ?_, fun m y => ?_, fun a b => h8 a b, fun a b => h9 a b, fun a b hab => by rw [r5 a b hab]; exact h10 a b hab⟩
    · rw [cNewS_K, cNewS_I, a1, if_neg (by omega)]
      by_cases h : s = k
      · rw [h, if_pos ⟨rfl, rfl⟩, if_pos ⟨rfl, rfl⟩, r1, r2]
        exact ⟨rfl, rfl, by omega⟩
      · rw [if_neg (fun z => h z.2), if_neg (by omega), if_neg (fun z => h z.2), r3 s (by omega), r4 s (by omega)]
        exact h2 s (by omega)
    · rw [cNewS_K, if_neg (by omega), if_neg (by omega), h3]; split <;> rfl
    · rw [cNewS_I, if_neg (fun z => hab z.1)]; exact h4 a b hab
    · rw [cNewS_L, h5]; split <;> rfl
    · rw [cNewS_M]; exact h6 a m y hm
    · rw [cNewS_D]; exact h7 m y
theorem i_r (xs : Nat → Int32) (L : Nat) (σ0 : LT) (τ0 τ1 : CT) : ∀ n k σ, k + n = 9 → ∃ σ1, fSI_L186 xs L σ0 τ0 τ1 n k σ = fSI_L209 xs L σ0 τ0 τ1 24 0 σ1 ∧ σ1.1 = σ.1 ∧ σ1.2.1 = σ.2.1 ∧ ∀ a b, lK σ1 a b = if a = 2 ∧ k ≤ b ∧ b < 9 then 100 else lK σ a b := by
  intro n
  induction n with
  | zero => intro k σ hk; exact ⟨σ, rfl, rfl, rfl, fun a b => by rw [if_neg (by omega)]⟩
  | succ n ih =>
    intro k σ hk
    obtain ⟨σ1, h1, h2, h3, h4⟩ := ih (k + 1) (lSK σ 2 k 100) (by omega)
    refine ⟨σ1, h1, h2, h3, fun a b => ?_⟩
    rw [h4, lSK_K]
    by_cases ha : a = 2 ∧ b = k
    · rw [if_pos ha, if_neg (by omega), if_pos (by omega)]
    · rw [if_neg ha]
      by_cases hb : a = 2 ∧ k + 1 ≤ b ∧ b < 9
      · rw [if_pos hb, if_pos (by omega)]
      · rw [if_neg hb, if_neg (by omega)]
theorem i_u (xs : Nat → Int32) (L : Nat) (σ0 : LT) (τ0 τ1 : CT) : ∀ n k σ, k + n = 24 → ∃ σ1, fSI_L209 xs L σ0 τ0 τ1 n k σ = fSI_L231 xs L σ0 τ0 τ1 9 0 σ1 ∧ σ1.2 = σ.2 ∧ ∀ a b, lI σ1 a b = if a = 4 ∧ k ≤ b ∧ b < 24 then -1 else lI σ a b := by
  intro n
  induction n with
  | zero => intro k σ hk; exact ⟨σ, rfl, rfl, fun a b => by rw [if_neg (by omega)]⟩
  | succ n ih =>
    intro k σ hk
    obtain ⟨σ1, h1, h3, h4⟩ := ih (k + 1) (lSI σ 4 k (-1)) (by omega)
    refine ⟨σ1, h1, h3, fun a b => ?_⟩
    rw [h4, lSI_I]
    by_cases ha : a = 4 ∧ b = k
    · rw [if_pos ha, if_neg (by omega), if_pos (by omega)]
    · rw [if_neg ha]
      by_cases hb : a = 4 ∧ k + 1 ≤ b ∧ b < 24
      · rw [if_pos hb, if_pos (by omega)]
      · rw [if_neg hb, if_neg (by omega)]
theorem i_p (xs : Nat → Int32) (L : Nat) (σ0 : LT) (τ0 τ1 : CT) : ∀ n k σ, k + n = 9 → ∃ σ1, fSI_L231 xs L σ0 τ0 τ1 n k σ = fSI_L253 xs L σ0 τ0 τ1 3 0 σ1 ∧ σ1.2 = σ.2 ∧ ∀ a b, lI σ1 a b = if a = 5 ∧ k ≤ b ∧ b < 9 then -1 else lI σ a b := by
  intro n
  induction n with
  | zero => intro k σ hk; exact ⟨σ, rfl, rfl, fun a b => by rw [if_neg (by omega)]⟩
  | succ n ih =>
    intro k σ hk
    obtain ⟨σ1, h1, h3, h4⟩ := ih (k + 1) (lSI σ 5 k (-1)) (by omega)
    refine ⟨σ1, h1, h3, fun a b => ?_⟩
    rw [h4, lSI_I]
    by_cases ha : a = 5 ∧ b = k
    · rw [if_pos ha, if_neg (by omega), if_pos (by omega)]
    · rw [if_neg ha]
      by_cases hb : a = 5 ∧ k + 1 ≤ b ∧ b < 9
      · rw [if_pos hb, if_pos (by omega)]
      · rw [if_neg hb, if_neg (by omega)]
theorem i_d (xs : Nat → Int32) (L : Nat) (σ0 : LT) (τ0 τ1 : CT) : ∀ n k σ, k + n = 3 → ∃ σ1, fSI_L253 xs L σ0 τ0 τ1 n k σ = some (σ1, τ1, (0 : Int64), 0, 0, 0, 0) ∧ σ1.2 = σ.2 ∧ ∀ a b, lI σ1 a b = if a = 7 ∧ 9 + k ≤ b ∧ b < 12 then -1 else lI σ a b := by
  intro n
  induction n with
  | zero => intro k σ hk; exact ⟨σ, rfl, rfl, fun a b => by rw [if_neg (by omega)]⟩
  | succ n ih =>
    intro k σ hk
    obtain ⟨σ1, h1, h3, h4⟩ := ih (k + 1) (lSI σ 7 (9 + k) (-1)) (by omega)
    refine ⟨σ1, h1, h3, fun a b => ?_⟩
    rw [h4, lSI_I]
    by_cases ha : a = 7 ∧ b = 9 + k
    · rw [if_pos ha, if_neg (by omega), if_pos (by omega)]
    · rw [if_neg ha]
      by_cases hb : a = 7 ∧ 9 + (k + 1) ≤ b ∧ b < 12
      · rw [if_pos hb, if_pos (by omega)]
      · rw [if_neg hb, if_neg (by omega)]
theorem i_all (xs : Nat → Int32) (L : Nat) : Aok 0 (fSI xs L σS0 cS0) := by
  unfold fSI
  obtain ⟨τ1, e1, hM⟩ := i_members xs L σS0 cS0 3 0 cS0 rfl MS0
  obtain ⟨σ2, τ2, e2, h⟩ := i_ships xs L σS0 cS0 5 0 σS0 τ1 rfl (SS0 hM)
  obtain ⟨σ3, e3, p1, p2, p3⟩ := i_r xs L σS0 cS0 τ2 9 0 σ2 rfl
  obtain ⟨σ4, e4, p4, p5⟩ := i_u xs L σS0 cS0 τ2 24 0 σ3 rfl
  obtain ⟨σ5, e5, p6, p7⟩ := i_p xs L σS0 cS0 τ2 9 0 σ4 rfl
  obtain ⟨σ6, e6, p8, p9⟩ := i_d xs L σS0 cS0 τ2 3 0 σ5 rfl
  obtain ⟨⟨a0, a1, a2, a3, a4, a5⟩, h2, h3, h4, h5, h6, h7, h8, h9, h10⟩ := h
  rw [e1, e2, e3, e4, e5, e6]
  have hK : ∀ a b, lK σ6 a b = if a = 2 ∧ 0 ≤ b ∧ b < 9 then 100 else lK σ2 a b := fun a b => by
    rw [← p3]; show σ6.2.2 a b = σ3.2.2 a b; rw [p8, p6, p4]
  have hL : ∀ a b, lL σ6 a b = 0 := fun a b => by
    rw [← h9 a b]; show σ6.2.1 a b = σ2.2.1 a b; rw [p8, p6, p4, p2]
  have hI3 : ∀ a b, lI σ3 a b = 0 := fun a b => by rw [← h8 a b]; show σ3.1 a b = σ2.1 a b; rw [p1]
  have hF : lF σ6 = 0 := by
    unfold lF
    rw [p9, if_neg (by omega), p7, if_neg (by omega), p5, if_neg (by omega), hI3]; rfl
  have hS5 : ∀ s, s < 5 → cK τ2 10 s = lK σ6 1 s ∧ cI τ2 21 s = nI (lK σ6 1 (8 + s)) ∧ 1 ≤ lK σ6 1 (8 + s) := fun s hs => by
    rw [hK, hK, if_neg (by omega), if_neg (by omega)]; exact h2 s hs
  refine ⟨_, _, _, _, _, _, _, rfl, ⟨a0, a1, a2, a3, a4, a5, h5 0 0, by decide, by decide, by decide, by decide, by rw [hF]; decide⟩, ?_, ?_, hS5, fun e he => absurd he (Nat.not_lt_zero e), fun s hs => ⟨fun _ e he => absurd he (Nat.not_lt_zero e), fun z => absurd (h3 s) z⟩, ⟨fun c hc => absurd hc (Nat.not_lt_zero c), fun c _ hc => ?_⟩, fun e he => absurd he (Nat.not_lt_zero e), ⟨fun c hc => absurd hc (Nat.not_lt_zero c), fun c hc => absurd hc (Nat.not_lt_zero c)⟩, ?_, ⟨?_, ?_⟩, ?_⟩
  · intro m hm
    refine ⟨fun y hy => ?_, fun y h3 hy => ?_⟩
    · rw [h6 _ _ _ hm, h6 _ _ _ hm, if_pos ⟨rfl, by omega⟩, if_neg (by omega), hK, if_pos ⟨rfl, by omega, by omega⟩, h7, p9, if_neg (by omega), p7, if_neg (by omega), p5, if_neg (by omega), hI3]
      exact ⟨rfl, by decide, by decide, Or.inl ⟨rfl, rfl, rfl⟩⟩
    · rw [h6 _ _ _ hm, h6 _ _ _ hm, if_pos ⟨rfl, by omega⟩, if_neg (by omega), h7]
      exact ⟨rfl, rfl, rfl⟩
  · intro m hm
    rw [h5, hL, h4 _ _ (by decide), if_pos ⟨rfl, hm⟩, p9, if_pos (by omega)]
    exact ⟨rfl, rfl, Or.inl rfl⟩
  · rw [hK, if_neg (by omega)]; exact h10 _ _ (by decide)
  · intro k hk y hy
    rw [h4 _ _ (by decide), if_neg (by omega), if_pos ⟨rfl, by omega⟩, p9, if_neg (by omega), p7, if_neg (by omega), p5, if_pos (by omega)]
    exact Or.inl ⟨rfl, rfl⟩
  · intro y hy
    rw [h4 31 _ (by decide), h4 32 _ (by decide), h4 33 _ (by decide), h4 34 _ (by decide), hK, hK, hF]
    simp only [show ¬ (31 = 20) by decide, show ¬ (31 = 39) by decide, show ¬ (32 = 20) by decide, show ¬ (32 = 39) by decide, show ¬ (33 = 20) by decide, show ¬ (33 = 39) by decide, show ¬ (34 = 20) by decide, show ¬ (34 = 39) by decide, show ¬ (6 = 2) by decide, false_and, if_false]
    rw [h10 _ _ (by decide), h10 _ _ (by decide), p9, if_neg (by omega), p7, if_pos (by omega)]
    exact ⟨by first | rfl | trivial, by decide, by first | rfl | trivial, by decide, ⟨fun _ => Nat.zero_le _, fun _ => by first | rfl | trivial⟩, Or.inl ⟨by first | rfl | trivial, by first | rfl | trivial⟩⟩
  · intro y h3 hy
    rw [h4 31 _ (by decide), h4 33 _ (by decide), if_neg (by omega), if_neg (by omega), if_neg (by omega), if_neg (by omega)]
    exact ⟨rfl, rfl⟩
  · refine ⟨fun i hi => ?_, fun m hm => ?_⟩
    · rw [hL]
      show (-20000000000 : Int) ≤ 0 ∧ (0 : Int) ≤ 20000000000 ∧ (_ → (-1000000000 : Int) ≤ 0 ∧ (0 : Int) ≤ 1000000000)
      omega
    · rw [hL]
      show (0 : Int) ≤ 0 ∧ (0 : Int) ≤ 3000000 * (0 : Nat)
      omega
end JAF
