/-! the class's state beside the reference's -/
def RelN (σ : MT) (τ : CT) : Prop := mN σ 1 = cN τ 5 ∧ mN σ 2 = cN τ 0 ∧ mN σ 8 = cN τ 1 ∧ mN σ 11 = cN τ 2 ∧ mN σ 20 = cN τ 3 ∧ mN σ 30 = cN τ 4 ∧ mL σ 35 0 = cL τ 0 0 ∧ mN σ 34 ≤ 20 ∧ cN τ 4 ≤ cN τ 3 ∧ mN σ 34 * 100 ≤ cN τ 5
def RelB (σ : MT) : Prop := (∀ k, mI σ 26 k = 0 ∨ mI σ 26 k = 1) ∧ (∀ k, mI σ 27 k = 0 ∨ mI σ 27 k = 1) ∧ (∀ k, mI σ 28 k = 0 ∨ mI σ 28 k = 1) ∧ (∀ k, mI σ 36 k = 0 ∨ mI σ 36 k = 1)
def RelM (σ : MT) (τ : CT) : Prop := ∀ m, m < 12 → ∀ y, y < 20 → (m < cN τ 0 → (mI σ 3 (20 * m + y) = cM τ 0 m y ∧ ∃ q, 10 ≤ q ∧ q ≤ 500 ∧ cM τ 0 m y = nI q) ∧ ((mI σ 6 (20 * m + y) = 0 ∧ cM τ 1 m y = 0 ∧ cD τ m y = 0) ∨ (mI σ 6 (20 * m + y) = 1 ∧ cM τ 1 m y = 1 ∧ cD τ m y = mL σ 7 (20 * m + y)) ∨ (mI σ 6 (20 * m + y) = 2 ∧ cM τ 1 m y = 0 ∧ cD τ m y = mL σ 7 (20 * m + y) ∧ y < mN σ 34))) ∧ (cN τ 0 ≤ m → mI σ 3 (20 * m + y) = nI 100 ∧ mI σ 6 (20 * m + y) = 0)
def RelP (σ : MT) (τ : CT) : Prop := ∀ m, m < 12 → (m < cN τ 0 → mL σ 4 m = cL τ 20 m ∧ mI σ 5 m = cI τ 20 m) ∧ (cN τ 0 ≤ m → mL σ 4 m = 0)
def RelS (σ : MT) (τ : CT) : Prop := ∀ s, s < cN τ 1 → mK σ 9 s = cK τ 10 s ∧ mI σ 10 s = cI τ 21 s ∧ ∃ t, 1 ≤ t ∧ t ≤ 999 ∧ cI τ 21 s = nI t
def RelE (σ : MT) (τ : CT) : Prop := ∀ e, e < cN τ 2 → mK σ 12 e = cK τ 11 e ∧ ∃ f, f ≤ cN τ 5 ∧ mI σ 13 e = nI f ∧ cI τ 22 e = nI f ∧ ((mI σ 14 e = -1 ∧ cI τ 23 e = nI 2000) ∨ ∃ u, u ≤ cN τ 5 ∧ mI σ 14 e = nI u ∧ cI τ 23 e = nI u)
def RelO (σ : MT) (τ : CT) : Prop := ∀ s, s < cN τ 1 → (cK τ 14 s = 0 → ∀ e, e < cN τ 2 → mK σ 12 e = s → mI σ 14 e ≠ -1) ∧ (cK τ 14 s ≠ 0 → mK σ 12 (cK τ 14 s - 1) = s ∧ mI σ 14 (cK τ 14 s - 1) = -1 ∧ ∀ e, e < cN τ 2 → mK σ 12 e = s → mI σ 14 e = -1 → e = cK τ 14 s - 1)
def RelC (σ : MT) (τ : CT) : Prop := ∀ c, c < cN τ 3 → mK σ 21 c = cK τ 12 c ∧ mK σ 22 c = cK τ 15 c ∧ mK σ 25 c = cK τ 13 c ∧ mK σ 23 c = cK τ 16 (cK τ 13 c) ∧ mI σ 24 c = cI τ 24 c ∧ mI σ 29 c = cI τ 25 c ∧ mI σ 26 c = cI τ 26 c ∧ mI σ 27 c = cI τ 27 c ∧ (∃ q, q ≤ 100000000 ∧ cI τ 24 c = nI q) ∧ ∃ q, q ≤ 100000000 ∧ cI τ 25 c = nI q
def RelZ (σ : MT) (τ : CT) : Prop := ∀ c, cN τ 3 ≤ c → c < 60 → mI σ 26 c = 0 ∧ mI σ 27 c = 0 ∧ mI σ 29 c = 0
def abit (x : Int64) (c : Nat) : Bool := x.toBitVec.getLsbD c
def RelA (σ : MT) (τ : CT) : Prop := ∀ s, s < 24 → ∀ c, c < 60 → (s < cN τ 1 → (mI σ 36 (60 * s + c) = 0 ↔ abit (cL τ 21 s) c = false)) ∧ (cN τ 1 ≤ s → mI σ 36 (60 * s + c) = 0)
def cCnt (f : Nat → Nat) (e : Nat) : Nat → Nat
  | 0 => 0
  | n + 1 => cCnt f e n + if f n = e then 1 else 0
def RelV (σ : MT) (τ : CT) : Prop := ∀ e, e < cN τ 4 → mK σ 31 e = cK τ 16 e ∧ cI τ 29 e = nI e ∧ cI τ 30 e = nI (cCnt (cK τ 13) e (cN τ 3))
def RelW (σ : MT) (τ : CT) : Prop := ∀ c, c < cN τ 3 → mK σ 23 c / 100 < mN σ 34 → mI σ 28 c = cI τ 28 c ∧ ∀ c1, c1 < cN τ 3 → mK σ 21 c1 = mK σ 21 c → mK σ 25 c1 = mK σ 25 c → mI σ 28 c1 = mI σ 28 c
def RelU (σ : MT) (τ : CT) : Prop := ∀ i, i < 80 → (mI σ 15 i = -1 ∧ cI τ 39 i = -1) ∨ ∃ d l, d ≤ 1000000 ∧ l ≤ 10000000 ∧ mI σ 15 i = nI d ∧ cI τ 38 i = nI d ∧ mI σ 16 i = nI l ∧ cI τ 39 i = nI l
def RelY (σ : MT) (τ : CT) : Prop := ∀ y, y < 20 → mI σ 32 y = cI τ 31 y ∧ mI σ 33 y = cI τ 32 y ∧ (cI τ 33 y = 0 ↔ mN σ 34 ≤ y) ∧ ((cI τ 34 y = 0 ∧ mI σ 17 y = -1) ∨ (cI τ 34 y = 1 ∧ ∃ r b, r ≤ 10000000 ∧ b ≤ 100000000 ∧ mI σ 17 y = nI r ∧ cI τ 35 y = nI r ∧ mI σ 18 y = nI b ∧ cI τ 36 y = nI b ∧ mI σ 19 y = cI τ 37 y))
def Rel (σ : MT) (τ : CT) : Prop := RelN σ τ ∧ RelB σ ∧ RelM σ τ ∧ RelP σ τ ∧ RelS σ τ ∧ RelE σ τ ∧ RelO σ τ ∧ RelC σ τ ∧ RelZ σ τ ∧ RelA σ τ ∧ RelV σ τ ∧ RelW σ τ ∧ RelU σ τ ∧ RelY σ τ
/-- what the law asks of one call -/
def xEq (G : wR) (xs : List String) (τ : CT) (r : Option Int64) (σ1 : MT) (th : Int32) : Prop :=
  (∃ En, G = .inl En ∧ wcode xs En th ∧ Rel σ1 τ) ∨ (∃ τ1, G = .inr (r, τ1) ∧ th = nI 0 ∧ Rel σ1 τ1)
abbrev IOB : String := "java/lang/IndexOutOfBoundsException"
abbrev IAE : String := "java/lang/IllegalArgumentException"
abbrev ISE : String := "java/lang/IllegalStateException"
theorem p_in {x : Int32} {a b : Nat} (ha : a < 2 ^ 31) (hb : b < 2 ^ 31) : (fX8_isIn x (nI a) (nI b) = nI 0 ∧ fX7_checkRange x (nI a) (nI b) = .inl IAE) ∨ ∃ q, a ≤ q ∧ q ≤ b ∧ x = nI q ∧ fX8_isIn x (nI a) (nI b) = nI 1 ∧ fX7_checkRange x (nI a) (nI b) = .inr () := by
  unfold fX8_isIn fX7_checkRange
  by_cases h1 : x < nI a
  · exact Or.inl ⟨if_pos h1, if_pos h1⟩
  · have h0 : ¬ x < 0 := by
      intro q
      rw [Int32.lt_iff_toInt_lt] at q h1
      rw [nI_toInt ha] at h1
      have h3 : (0 : Int32).toInt = 0 := rfl
      omega
    obtain ⟨j, hj, rfl⟩ := nI_of h0
    rw [nI_ltI hj ha] at h1
    by_cases h2 : nI b < nI j
    · have h3 := h2
      rw [nI_ltI hb hj] at h3
      refine Or.inl ⟨by rw [if_neg (by rw [nI_ltI hj ha]; exact h1), if_pos h2], by rw [if_neg (by rw [nI_ltI hj ha]; exact h1), if_neg (by rw [nI_leI hj hb]; omega)]⟩
    · have h3 := h2
      rw [nI_ltI hb hj] at h3
      exact Or.inr ⟨j, by omega, by omega, rfl, by rw [if_neg (by rw [nI_ltI hj ha]; exact h1), if_neg h2], by rw [if_neg (by rw [nI_ltI hj ha]; exact h1), if_pos (by rw [nI_leI hj hb]; omega)]⟩
theorem p_of {x : Int32} {n : Nat} (hn : n < 2 ^ 30) : (fX8_isIn x (nI 0) (nI n - nI 1) = nI 0 ∧ (x < 0 ∨ ¬ x < nI n)) ∨ ∃ q, q < n ∧ x = nI q ∧ fX8_isIn x (nI 0) (nI n - nI 1) = nI 1 ∧ ¬ nI q < 0 ∧ nI q < nI n := by
  unfold fX8_isIn
  by_cases h1 : x < nI 0
  · exact Or.inl ⟨if_pos h1, Or.inl h1⟩
  · obtain ⟨j, hj, rfl⟩ := nI_of (x := x) h1
    by_cases h2 : j < n
    · refine Or.inr ⟨j, h2, rfl, ?_, h1, nI_lt h2 (by omega)⟩
      rw [if_neg h1, pk_sub (by omega), if_neg (by rw [nI_ltI (by omega) hj]; omega)]
    · refine Or.inl ⟨?_, Or.inr (by rw [nI_ltI hj (by omega)]; exact h2)⟩
      rw [if_neg h1]
      by_cases h3 : n = 0
      · subst h3
        rw [if_pos]
        rw [Int32.lt_iff_toInt_lt, nI_toInt hj]
        have : (nI 0 - nI 1).toInt = -1 := by decide
        omega
      · rw [pk_sub (by omega), if_pos (by rw [nI_ltI (by omega) hj]; omega)]
theorem p_member {σ : MT} {τ : CT} (hR : RelN σ τ) (hW : CW τ) (x : Int32) : (fX8_isMember σ x = nI 0 ∧ fX7_memberOf τ x = .inl IOB) ∨ ∃ q, q < cN τ 0 ∧ x = nI q ∧ tn x = q ∧ fX8_isMember σ x = nI 1 ∧ fX7_memberOf τ x = .inr q := by
  have w := hW.1
  unfold fX8_isMember fX7_memberOf
  rw [hR.2.1]
  rcases p_of (x := x) (n := cN τ 0) (by omega) with ⟨h1, h2⟩ | ⟨q, h1, rfl, h3, h4, h5⟩
  · refine Or.inl ⟨h1, ?_⟩
    rcases h2 with h2 | h2
    · rw [if_pos h2]
    · split
      · rfl
      · first | rfl | exact if_neg h2
  · exact Or.inr ⟨q, h1, rfl, tn_nI (by omega), h3, by rw [if_neg h4, if_pos h5, tn_nI (by omega)]⟩
theorem p_ship {σ : MT} {τ : CT} (hR : RelN σ τ) (hW : CW τ) (x : Int32) : (fX8_isShip σ x = nI 0 ∧ fX7_shipOf τ x = .inl IOB) ∨ ∃ q, q < cN τ 1 ∧ x = nI q ∧ tn x = q ∧ fX8_isShip σ x = nI 1 ∧ fX7_shipOf τ x = .inr q := by
  have w := hW.1
  unfold fX8_isShip fX7_shipOf
  rw [hR.2.2.1]
  rcases p_of (x := x) (n := cN τ 1) (by omega) with ⟨h1, h2⟩ | ⟨q, h1, rfl, h3, h4, h5⟩
  · refine Or.inl ⟨h1, ?_⟩
    rcases h2 with h2 | h2
    · rw [if_pos h2]
    · split
      · rfl
      · first | rfl | exact if_neg h2
  · exact Or.inr ⟨q, h1, rfl, tn_nI (by omega), h3, by rw [if_neg h4, if_pos h5, tn_nI (by omega)]⟩
theorem p_claim {σ : MT} {τ : CT} (hR : RelN σ τ) (hW : CW τ) (x : Int32) : (fX8_isClaim σ x = nI 0 ∧ fX7_claimOf τ x = .inl IOB) ∨ ∃ q, q < cN τ 3 ∧ x = nI q ∧ tn x = q ∧ fX8_isClaim σ x = nI 1 ∧ fX7_claimOf τ x = .inr q := by
  have w := hW.1
  unfold fX8_isClaim fX7_claimOf
  rw [hR.2.2.2.2.1]
  rcases p_of (x := x) (n := cN τ 3) (by omega) with ⟨h1, h2⟩ | ⟨q, h1, rfl, h3, h4, h5⟩
  · refine Or.inl ⟨h1, ?_⟩
    rcases h2 with h2 | h2
    · rw [if_pos h2]
    · split
      · rfl
      · first | rfl | exact if_neg h2
  · exact Or.inr ⟨q, h1, rfl, tn_nI (by omega), h3, by rw [if_neg h4, if_pos h5, tn_nI (by omega)]⟩
theorem p_event {σ : MT} {τ : CT} (hR : RelN σ τ) (hW : CW τ) (x : Int32) : (fX8_isIn x (nI 0) (nI (mN σ 30) - nI 1) = nI 0 ∧ fX7_eventOf τ x = .inl IOB) ∨ ∃ q, q < cN τ 4 ∧ x = nI q ∧ tn x = q ∧ fX8_isIn x (nI 0) (nI (mN σ 30) - nI 1) = nI 1 ∧ fX7_eventOf τ x = .inr q := by
  have w := hW.1
  unfold fX7_eventOf
  rw [hR.2.2.2.2.2.1]
  rcases p_of (x := x) (n := cN τ 4) (by omega) with ⟨h1, h2⟩ | ⟨q, h1, rfl, h3, h4, h5⟩
  · refine Or.inl ⟨h1, ?_⟩
    rcases h2 with h2 | h2
    · rw [if_pos h2]
    · split
      · rfl
      · first | rfl | exact if_neg h2
  · exact Or.inr ⟨q, h1, rfl, tn_nI (by omega), h3, by rw [if_neg h4, if_pos h5, tn_nI (by omega)]⟩
theorem p_year (x : Int32) : (fX8_isYear x = nI 0 ∧ fX7_checkYear x = .inl IAE) ∨ ∃ q, q < 20 ∧ x = nI q ∧ tn x = q ∧ fX8_isYear x = nI 1 ∧ fX7_checkYear x = .inr () := by
  unfold fX8_isYear fX7_checkYear
  rcases p_in (x := x) (a := 0) (b := 19) (by decide) (by decide) with ⟨h1, h2⟩ | ⟨q, h1, h2, h3, h4, h5⟩
  · exact Or.inl ⟨h1, by rw [h2]; rfl⟩
  · exact Or.inr ⟨q, by omega, h3, by rw [h3]; exact tn_nI (by omega), h4, by rw [h5]; rfl⟩
theorem p_kind (x : Int32) : (fX8_isKind x = nI 0 ∧ fX7_checkKind x = .inl IAE) ∨ ∃ q, q < 4 ∧ x = nI q ∧ tn x = q ∧ fX8_isKind x = nI 1 ∧ fX7_checkKind x = .inr () := by
  unfold fX8_isKind fX7_checkKind
  rcases p_in (x := x) (a := 0) (b := 3) (by decide) (by decide) with ⟨h1, h2⟩ | ⟨q, h1, h2, h3, h4, h5⟩
  · exact Or.inl ⟨h1, by rw [h2]; rfl⟩
  · exact Or.inr ⟨q, by omega, h3, by rw [h3]; exact tn_nI (by omega), h4, by rw [h5]; rfl⟩
theorem p_loss (x : Int32) : (fX8_isLoss x = nI 0 ∧ fX7_checkLoss x = .inl IAE) ∨ ∃ q, q ≤ 100000000 ∧ x = nI q ∧ tn x = q ∧ fX8_isLoss x = nI 1 ∧ fX7_checkLoss x = .inr () := by
  unfold fX8_isLoss fX7_checkLoss
  rcases p_in (x := x) (a := 0) (b := 100000000) (by decide) (by decide) with ⟨h1, h2⟩ | ⟨q, h1, h2, h3, h4, h5⟩
  · exact Or.inl ⟨h1, by rw [h2]; rfl⟩
  · exact Or.inr ⟨q, by omega, h3, by rw [h3]; exact tn_nI (by omega), h4, by rw [h5]; rfl⟩
theorem n10 : ¬ (nI 1 = (0 : Int32)) := by decide
theorem n00 : nI 0 = (0 : Int32) := rfl
/-- thrown: the state stays -/
theorem xEq.thr {G : wR} {xs : List String} {σ : MT} {τ : CT} {r : Option Int64} {th : Int32} {En : String} (hR : Rel σ τ) (hG : G = .inl En) (hc : wcode xs En th) : xEq G xs τ r σ th := Or.inl ⟨En, hG, hc, hR⟩
theorem xEq.ret {G : wR} {xs : List String} {σ1 : MT} {τ τ1 : CT} {r : Option Int64} {th : Int32} (hG : G = .inr (r, τ1)) (ht : th = nI 0) (hR : Rel σ1 τ1) : xEq G xs τ r σ1 th := Or.inr ⟨τ1, hG, ht, hR⟩
theorem Rel.MW {σ : MT} {τ : CT} (hR : Rel σ τ) (hW : CW τ) : MW σ := by
  obtain ⟨⟨n1, n2, n3, n4, n5, n6, n7, n8, n9, n10⟩, ⟨b1, b2, b3, b4⟩, -, -, hS, hE, -, hC, -, -, hV, -⟩ := hR
  obtain ⟨w, w1, w2, w3, w4, w5, w6, w7, -⟩ := hW
  refine ⟨⟨by omega, by omega, by omega, by omega, by omega, by omega, n8⟩, fun k hk => ?_, fun k hk => ?_, fun k hk => ?_, fun k hk => ?_, fun k hk => ?_, fun k hk => ?_, fun k hk => ?_, b1, b2, b3, b4⟩
  · rw [n3] at hk; rw [(hS k hk).1, n2]; exact w1 k hk
  · rw [n4] at hk; rw [(hE k hk).1, n3]; exact w2 k hk
  · rw [n5] at hk; rw [(hC k hk).1, n3]; exact w3 k hk
  · rw [n5] at hk; rw [(hC k hk).2.1]; exact w6 k hk
  · rw [n5] at hk; rw [(hC k hk).2.2.2.1]; exact w7 _ (w4 k hk)
  · rw [n5] at hk; rw [(hC k hk).2.2.1, n6]; exact w4 k hk
  · rw [n6] at hk; rw [(hV k hk).1]; exact w7 k hk
