/-! what an event costs, what the club bears, a year's cost -/
theorem e_costOf {σ : MT} {τ : CT} (hR : Rel σ τ) (hW : CW τ) {e : Nat} (he : e < cN τ 4) : ∃ q, q ≤ 600000000 ∧ fX8_costOf σ (nI e) = lN q ∧ fX7_costOf τ e = lN q := by
  have w := hW.1
  have hR0 := hR
  obtain ⟨hN, hB, hM, hP, hS, hE, hO, hC, hZ, hA, hV, hw, hU, hY⟩ := hR
  have L : ∀ n k a, k + n = cN τ 3 → a + 10000000 * n ≤ 600000000 → ∃ q, q ≤ 600000000 ∧ fX8_costOf_L5 σ (nI e) n k (lN a) = lN q ∧ fX7_costOf_L13 τ e n k (lN a) = lN q := by
    intro n
    induction n with
    | zero => intro k a hk ha; exact ⟨a, by omega, rfl, rfl⟩
    | succ n ih =>
      intro k a hk ha
      have e7 : fX7_costOf_L13 τ e (n + 1) k (lN a) = fX7_costOf_L13 τ e n (k + 1) (fX7_costOf_S13 τ e k (lN a)) := rfl
      have e8 : fX8_costOf_L5 σ (nI e) (n + 1) k (lN a) = fX8_costOf_L5 σ (nI e) n (k + 1) (fX8_costOf_S5 σ (nI e) k (lN a)) := rfl
      have hk3 : k < cN τ 3 := by omega
      have hev := hW.2.2.2.2.1 k hk3
      obtain ⟨f1, f2⟩ := e_first hC hW hk3
      have key : ∃ b, b ≤ a + 10000000 ∧ fX8_costOf_S5 σ (nI e) k (lN a) = lN b ∧ fX7_costOf_S13 τ e k (lN a) = lN b := by
        unfold fX8_costOf_S5 fX8_costOf_B45 fX7_costOf_S13
        rw [(hC k hk3).2.2.1, f1]
        by_cases h1 : cK τ 13 k = e
        · rw [if_pos (congrArg nI h1), if_pos h1]
          by_cases h2 : fX7_isFirstOfItsGroup τ k = 0
          · rw [if_pos h2, if_pos h2, Int64.add_zero]; exact ⟨a, by omega, rfl, rfl⟩
          · rw [if_neg h2, if_neg h2]
            obtain ⟨q, q1, q2, q3⟩ := e_together hR0 hW hk3 (f2 h2)
            rw [q2, ← h1, q3]
            by_cases h3 : fX7_isCovered τ k = 0
            · rw [if_pos h3, if_pos h3, Int64.add_zero]; exact ⟨a, by omega, rfl, rfl⟩
            · rw [if_neg h3, if_neg h3, lN_add]; exact ⟨a + q, by omega, rfl, rfl⟩
        · rw [if_neg (by rw [nI_eq (by omega) (by omega)]; exact h1), if_neg h1, Int64.add_zero]; exact ⟨a, by omega, rfl, rfl⟩
      obtain ⟨b, b1, b2, b3⟩ := key
      rw [e7, e8, b2, b3]
      exact ih (k + 1) b (by omega) (by omega)
  unfold fX8_costOf fX7_costOf
  rw [hN.2.2.2.2.1]
  exact L (cN τ 3) 0 0 (by omega) (by omega)
theorem e_bears {σ : MT} {τ : CT} (hR : Rel σ τ) (hW : CW τ) {e : Nat} (he : e < cN τ 4) : fX8_bears σ e = fX7_borneOf τ e := by
  have w := hW.1
  obtain ⟨q, q1, q2, q3⟩ := e_costOf hR hW he
  obtain ⟨hN, hB, hM, hP, hS, hE, hO, hC, hZ, hA, hV, hw, hU, hY⟩ := hR
  have hd := hW.2.2.2.2.2.2.2.1 e he
  obtain ⟨-, -, -, hp⟩ := hY (cK τ 16 e / 100) (by omega)
  unfold fX8_bears fX8_bears_B68 fX7_borneOf fX6_borneOf
  rw [(hV e he).1, q2, q3]
  rcases hp with ⟨p1, p2⟩ | ⟨p1, r, b, r1, b1, p2, p3, p4, p5, p6⟩
  · rw [p1, p2, if_pos (by decide), if_pos rfl]
  · rw [p1, p2, p3, p4, p5, p6, if_neg (show ¬ (1 : Int32) = 0 by decide), nI_l (by omega), nI_l (by omega)]
    have hne : ¬ lN r = (-1 : Int64) := by
      intro z
      have z2 := congrArg Int64.toInt z
      rw [pk_lT (by omega)] at z2
      have : (-1 : Int64).toInt = -1 := by decide
      omega
    rw [if_neg hne]
    by_cases h1 : r < q
    · have h1' : lN r < lN q := (pk_lLT (by omega) (by omega)).mpr h1
      rw [if_pos h1', if_pos h1']
      have hm : (if lN b ≤ lN q then lN b else lN q) = (if lN b < lN q then lN b else lN q) := by
        by_cases h2 : b < q
        · rw [if_pos ((pk_lLT (by omega) (by omega)).mpr h2), if_pos ((pk_lLE (by omega) (by omega)).mpr (by omega))]
        · rw [if_neg (fun z => h2 ((pk_lLT (by omega) (by omega)).mp z))]
          by_cases h3 : b = q
          · rw [h3]; split <;> rfl
          · rw [if_neg (fun z => h3 (by have := (pk_lLE (by omega) (by omega)).mp z; omega))]
      rw [hm]
      by_cases h4 : q ≤ b
      · rw [if_pos ((pk_lLE (by omega) (by omega)).mpr h4)]
        have h5 : ¬ (0 : Int64) < lN q - lN b := by
          rw [Int64.lt_iff_toInt_lt, Int64.toInt_sub, pk_lT (by omega), pk_lT (by omega), show (0 : Int64).toInt = 0 from rfl, Int.bmod_eq_of_le (by omega) (by omega)]
          omega
        rw [if_neg h5]
      · rw [if_neg (fun z => h4 ((pk_lLE (by omega) (by omega)).mp z)), lN_sub (by omega), if_pos (show (0 : Int64) < _ from (pk_lLT (a := 0) (by omega) (by omega)).mpr (by omega))]
    · have h1' : ¬ lN r < lN q := fun z => h1 ((pk_lLT (by omega) (by omega)).mp z)
      rw [if_neg h1', if_neg h1']
theorem e_costIn {σ : MT} {τ : CT} (hR : Rel σ τ) (hW : CW τ) (y : Int32) : fX8_costIn σ y = fX7_costIn τ y := by
  have w := hW.1
  have L : ∀ n k a, k + n = cN τ 4 → fX8_costIn_L5 σ y n k a = fX7_costIn_L5 τ y n k a := by
    intro n
    induction n with
    | zero => intro k a _; rfl
    | succ n ih =>
      intro k a hk
      have e7 : fX7_costIn_L5 τ y (n + 1) k a = fX7_costIn_L5 τ y n (k + 1) (fX7_costIn_S5 τ y k a) := rfl
      have e8 : fX8_costIn_L5 σ y (n + 1) k a = fX8_costIn_L5 σ y n (k + 1) (fX8_costIn_S5 σ y k a) := rfl
      have key : fX8_costIn_S5 σ y k a = fX7_costIn_S5 τ y k a := by
        unfold fX8_costIn_S5 fX8_costIn_B39 fX7_costIn_S5
        rw [(hR.2.2.2.2.2.2.2.2.2.2.1 k (by omega)).1, e_bears hR hW (by omega)]
        by_cases h : nI (cK τ 16 k / 100) = y
        · rw [if_pos h, if_pos h]
        · rw [if_neg h, if_neg h, Int64.add_zero]
      rw [e7, e8, key]
      exact ih _ _ (by omega)
  unfold fX8_costIn fX7_costIn
  rw [hR.1.2.2.2.2.2.1]
  exact L _ 0 _ (by omega)
/-- bits -/
theorem e_bit (x : Int64) {i : Nat} (hi : i < 60) : ((x >>> ((nI i).toInt64 &&& 63)) &&& (1 : Int64)) = (0 : Int64) ↔ abit x i = false := by
  have hc : ∀ i : Fin 60, ((nI i.val).toInt64 &&& 63) = Int64.ofNat i.val := by decide +kernel
  have h1 : ((nI i).toInt64 &&& 63) = Int64.ofNat i := hc ⟨i, hi⟩
  have hs : ∀ i : Fin 60, ((Int64.ofNat i.val).toBitVec.smod 64).toNat = i.val := by decide +kernel
  have e : (x >>> Int64.ofNat i).toBitVec = x.toBitVec.sshiftRight i := by
    rw [Int64.toBitVec_shiftRight]
    show x.toBitVec.sshiftRight' ((Int64.ofNat i).toBitVec.smod 64) = _
    unfold BitVec.sshiftRight'
    rw [hs ⟨i, hi⟩]
  rw [h1, ← Int64.toBitVec_inj, Int64.toBitVec_and, e]
  show x.toBitVec.sshiftRight i &&& 1#64 = 0#64 ↔ x.toBitVec.getLsbD i = false
  constructor
  · intro h
    have t := congrArg (fun z => z.getLsbD 0) h
    simp only [BitVec.getLsbD_and, BitVec.getLsbD_sshiftRight] at t
    simpa [show i < 64 by omega] using t
  · intro h
    apply BitVec.eq_of_getLsbD_eq
    intro j hj
    cases j with
    | zero =>
      have h2 : x.toBitVec[i]'(by omega) = false := by rw [← BitVec.getLsbD_eq_getElem]; exact h
      simp only [BitVec.getLsbD_and, BitVec.getLsbD_sshiftRight]; simp [show i < 64 by omega, h2]
    | succ j => simp
theorem e_set (x : Int64) {c i : Nat} (hc : c < 60) (hi : i < 60) : abit (x ||| ((1 : Int64) <<< ((nI c).toInt64 &&& 63))) i = (abit x i || decide (i = c)) := by
  have hs : ∀ c : Fin 60, ((1 : Int64) <<< ((nI c.val).toInt64 &&& 63)).toBitVec = BitVec.twoPow 64 c.val := by decide +kernel
  unfold abit
  rw [Int64.toBitVec_or, BitVec.getLsbD_or, hs ⟨c, hc⟩, BitVec.getLsbD_twoPow]
  by_cases h : i = c
  · subst h; simp [show i < 64 by omega]
  · simp [h]; intro h2 h3; omega
theorem held_s (τ : CT) (s : Nat) (n k : Nat) : fX7_isHeld_L2 τ s (n + 1) k = if ((cL τ 21 s) >>> ((nI k).toInt64 &&& 63)) &&& (1 : Int64) = (0 : Int64) then fX7_isHeld_L2 τ s n (k + 1) else if fX0_holdsShips τ k = 0 then fX7_isHeld_L2 τ s n (k + 1) else nI 1 := by
  show lbind (fX7_isHeld_S2 τ s k) (fun q => fX7_isHeld_L2 τ s n (k + 1)) = _
  unfold fX7_isHeld_S2
  repeat' split
  all_goals rfl
theorem e_held {σ : MT} {τ : CT} (hR : Rel σ τ) (hW : CW τ) {s : Nat} (hs : s < cN τ 1) : fX8_isHeld σ s = fX7_isHeld τ s := by
  have w := hW.1
  obtain ⟨hN, hB, hM, hP, hS, hE, hO, hC, hZ, hA, hV, hw, hU, hY⟩ := hR
  have L1 : ∀ n k, fX8_isHeld_L4 σ s n k (nI 1) = nI 1 := by
    intro n
    induction n with
    | zero => intro k; rfl
    | succ n ih => intro k; simp only [fX8_isHeld_L4, lseq, fX8_isHeld_S4]; rw [if_neg n10]; exact ih _
  have L : ∀ n k, k + n = cN τ 3 → fX8_isHeld_L4 σ s n k (nI 0) = fX7_isHeld_L2 τ s n k := by
    intro n
    induction n with
    | zero => intro k _; rfl
    | succ n ih =>
      intro k hk
      have e8 : fX8_isHeld_L4 σ s (n + 1) k (nI 0) = fX8_isHeld_L4 σ s n (k + 1) (fX8_isHeld_S4 σ s k (nI 0)) := rfl
      have ha := ((hA s (by omega) k (by omega)).1 hs).trans (e_bit (cL τ 21 s) (i := k) (by omega)).symm
      obtain ⟨-, -, -, -, c5, c6, c7, -⟩ := hC k (by omega)
      rw [e8, held_s]
      unfold fX8_isHeld_S4
      rw [if_pos n00, c5, c6, c7]
      by_cases h1 : mI σ 36 (60 * s + k) = 0
      · rw [if_pos h1, if_pos (ha.mp h1)]; exact ih _ (by omega)
      · rw [if_neg h1, if_neg (fun z => h1 (ha.mpr z))]
        by_cases h2 : cI τ 26 k = 0
        · rw [if_pos h2]
          by_cases h3 : cI τ 24 k ≤ cI τ 25 k
          · have e : fX0_holdsShips τ k = nI 0 := by unfold fX0_holdsShips; rw [if_pos h2, if_pos h3]
            rw [if_pos h3, e, if_pos n00]; exact ih _ (by omega)
          · have e : fX0_holdsShips τ k = nI 1 := by unfold fX0_holdsShips; rw [if_pos h2, if_neg h3]
            rw [if_neg h3, e, if_neg n10]; exact L1 _ _
        · have e : fX0_holdsShips τ k = nI 0 := by unfold fX0_holdsShips; rw [if_neg h2]
          rw [if_neg h2, e, if_pos n00]; exact ih _ (by omega)
  unfold fX8_isHeld fX7_isHeld
  rw [hN.2.2.2.2.1]
  exact L _ 0 (by omega)
