/-! the class's state beside the law's arrays -/
def JN (σ : LT) (τ : CT) (q12 : Int64) (n14 n15 n16 n17 : Nat) : Prop := cN τ 0 = 3 ∧ cN τ 1 = 5 ∧ cN τ 2 = n14 ∧ cN τ 3 = n15 ∧ cN τ 4 = n16 ∧ cN τ 5 = n17 ∧ cL τ 0 0 = q12 ∧ n14 ≤ 12 ∧ n15 ≤ 10 ∧ n16 ≤ n15 ∧ n17 < 300 ∧ 100 * lF σ ≤ n17
def JM (σ : LT) (τ : CT) : Prop := ∀ m, m < 3 → (∀ y, y < 3 → cM τ 0 m y = nI (lK σ 2 (3 * m + y)) ∧ 10 ≤ lK σ 2 (3 * m + y) ∧ lK σ 2 (3 * m + y) ≤ 500 ∧ ((lI σ 7 (3 * m + y) = 0 ∧ cM τ 1 m y = 0 ∧ cD τ m y = 0) ∨ (lI σ 7 (3 * m + y) = 1 ∧ cM τ 1 m y = 1 ∧ cD τ m y = lL σ 8 (3 * m + y)) ∨ (lI σ 7 (3 * m + y) = 2 ∧ cM τ 1 m y = 0 ∧ cD τ m y = lL σ 8 (3 * m + y) ∧ y < lF σ))) ∧ ∀ y, 3 ≤ y → y < 20 → cM τ 0 m y = nI 100 ∧ cM τ 1 m y = 0 ∧ cD τ m y = 0
def JP (σ : LT) (τ : CT) : Prop := ∀ m, m < 3 → cL τ 20 m = lL σ 9 m ∧ cI τ 20 m = lI σ 7 (9 + m) ∧ (lI σ 7 (9 + m) = -1 ∨ ∃ d, d < 300 ∧ lI σ 7 (9 + m) = nI d)
def JS (σ : LT) (τ : CT) : Prop := ∀ s, s < 5 → cK τ 10 s = lK σ 1 s ∧ cI τ 21 s = nI (lK σ 1 (8 + s)) ∧ 1 ≤ lK σ 1 (8 + s)
def JE (σ : LT) (τ : CT) (n14 n17 : Nat) : Prop := ∀ e, e < n14 → cK τ 11 e = lK σ 0 (3 * e) ∧ cI τ 22 e = nI (lK σ 0 (3 * e + 1)) ∧ lK σ 0 (3 * e + 1) ≤ n17 ∧ ((lK σ 0 (3 * e + 2) = 9999 ∧ cI τ 23 e = nI 2000) ∨ (lK σ 0 (3 * e + 2) ≤ n17 ∧ cI τ 23 e = nI (lK σ 0 (3 * e + 2))))
def JO (σ : LT) (τ : CT) (n14 : Nat) : Prop := ∀ s, s < 5 → (cK τ 14 s = 0 → ∀ e, e < n14 → lK σ 0 (3 * e) = s → lK σ 0 (3 * e + 2) ≠ 9999) ∧ (cK τ 14 s ≠ 0 → cK τ 14 s ≤ n14 ∧ lK σ 0 (3 * (cK τ 14 s - 1)) = s ∧ lK σ 0 (3 * (cK τ 14 s - 1) + 2) = 9999 ∧ ∀ e, e < n14 → lK σ 0 (3 * e) = s → lK σ 0 (3 * e + 2) = 9999 → e = cK τ 14 s - 1)
def JC (σ : LT) (τ : CT) (n15 n16 n17 : Nat) : Prop := (∀ c, c < n15 → cK τ 12 c = lK σ 3 (6 * c) ∧ cK τ 15 c = lK σ 3 (6 * c + 1) ∧ cK τ 13 c = lK σ 3 (6 * c + 4) ∧ lK σ 3 (6 * c + 4) < n16 ∧ cK τ 16 (lK σ 3 (6 * c + 4)) = lK σ 3 (6 * c + 2) ∧ lK σ 3 (6 * c + 2) ≤ n17 ∧ cI τ 24 c = nI (lK σ 3 (6 * c + 3)) ∧ lK σ 3 (6 * c + 3) ≤ 100000000 ∧ (cI τ 26 c = 0 ↔ lK σ 3 (6 * c + 5) &&& 1 = 0) ∧ (cI τ 27 c = 0 ↔ lK σ 3 (6 * c + 5) &&& 2 = 0) ∧ (cI τ 28 c = 0 ↔ lK σ 3 (6 * c + 5) &&& 4 = 0) ∧ lK σ 3 (6 * c + 5) < 8) ∧ ∀ c, n15 ≤ c → c < 10 → lK σ 3 (6 * c + 5) = 0
def JV (τ : CT) (n15 n16 : Nat) : Prop := ∀ e, e < n16 → cI τ 29 e = nI e ∧ ∃ c, c < n15 ∧ cK τ 13 c = e
def JW (σ : LT) (n15 : Nat) : Prop := (∀ c, c < n15 → lF σ ≤ lK σ 3 (6 * c + 2) / 100 → lK σ 3 (6 * c + 5) &&& 4 = 0) ∧ ∀ c, c < n15 → lK σ 3 (6 * c + 2) / 100 < lF σ → ∀ c1, c1 < n15 → lK σ 3 (6 * c1) = lK σ 3 (6 * c) → lK σ 3 (6 * c1 + 4) = lK σ 3 (6 * c + 4) → lK σ 3 (6 * c1 + 5) &&& 4 = lK σ 3 (6 * c + 5) &&& 4
def JU (σ : LT) (τ : CT) : Prop := ∀ k, k < 4 → ∀ y, y < 3 → (lI σ 4 (6 * k + 2 * y) = -1 ∧ cI τ 39 (k * 20 + y) = -1) ∨ ∃ d l, d ≤ 1000000 ∧ l ≤ 10000000 ∧ lI σ 4 (6 * k + 2 * y) = nI d ∧ cI τ 38 (k * 20 + y) = nI d ∧ lI σ 4 (6 * k + 2 * y + 1) = nI l ∧ cI τ 39 (k * 20 + y) = nI l
def JY (σ : LT) (τ : CT) : Prop := (∀ y, y < 3 → cI τ 31 y = nI (lK σ 6 y) ∧ lK σ 6 y ≤ 9000 ∧ cI τ 32 y = nI (lK σ 6 (3 + y)) ∧ lK σ 6 (3 + y) ≤ 1000 ∧ (cI τ 33 y = 0 ↔ lF σ ≤ y) ∧ ((cI τ 34 y = 0 ∧ lI σ 5 (3 * y) = -1) ∨ (¬ cI τ 34 y = 0 ∧ ∃ r b q, r ≤ 10000000 ∧ r ≤ b ∧ b ≤ 100000000 ∧ q ≤ 100 ∧ lI σ 5 (3 * y) = nI r ∧ cI τ 35 y = nI r ∧ lI σ 5 (3 * y + 1) = nI b ∧ cI τ 36 y = nI b ∧ lI σ 5 (3 * y + 2) = nI q ∧ cI τ 37 y = nI q))) ∧ ∀ y, 3 ≤ y → y < 20 → cI τ 31 y = 0 ∧ cI τ 33 y = 0
def JB (t : Nat) (σ : LT) : Prop := (∀ i, i < 9 → -20000000000 ≤ (lL σ 8 i).toInt ∧ (lL σ 8 i).toInt ≤ 20000000000 ∧ (lF σ ≤ i % 3 → -1000000000 ≤ (lL σ 8 i).toInt ∧ (lL σ 8 i).toInt ≤ 1000000000)) ∧ ∀ m, m < 3 → 0 ≤ (lL σ 9 m).toInt ∧ (lL σ 9 m).toInt ≤ 3000000 * t
def J (t : Nat) (σ : LT) (τ : CT) (q12 : Int64) (n14 n15 n16 n17 : Nat) : Prop := JN σ τ q12 n14 n15 n16 n17 ∧ JM σ τ ∧ JP σ τ ∧ JS σ τ ∧ JE σ τ n14 n17 ∧ JO σ τ n14 ∧ JC σ τ n15 n16 n17 ∧ JV τ n15 n16 ∧ JW σ n15 ∧ JU σ τ ∧ JY σ τ ∧ JB t σ
/-! rows that speak of the class alone -/
theorem n10 : ¬ (nI 1 = (0 : Int32)) := by decide
theorem n00 : nI 0 = (0 : Int32) := rfl
theorem i32_nle {a b : Int32} : ¬ a ≤ b ↔ b < a := by rw [Int32.lt_iff_toInt_lt, Int32.le_iff_toInt_le]; omega
theorem nI_m1 {n : Nat} (h : n < 2 ^ 31) : ¬ nI n = -1 := by
  intro z
  have z2 := congrArg Int32.toInt z
  rw [nI_toInt h] at z2
  have : (-1 : Int32).toInt = -1 := by decide
  omega
theorem p_in {x : Int32} {a b : Nat} (q : Nat) (hx : x = nI q) (ha : a ≤ q) (hb : q ≤ b) (h : b < 2 ^ 31) : fX7_checkRange x (nI a) (nI b) = .inr () := by
  subst hx
  unfold fX7_checkRange
  rw [if_neg (by rw [nI_ltI (by omega) (by omega)]; omega), if_pos (nI_le hb h)]
theorem p_member {τ : CT} {q : Nat} (hq : q < cN τ 0) (h : cN τ 0 < 2 ^ 31) : fX7_memberOf τ (nI q) = .inr q := by
  unfold fX7_memberOf
  rw [if_neg (nI_pos (by omega)), if_pos (nI_lt hq h), tn_nI (by omega)]
theorem p_ship {τ : CT} {q : Nat} (hq : q < cN τ 1) (h : cN τ 1 < 2 ^ 31) : fX7_shipOf τ (nI q) = .inr q := by
  unfold fX7_shipOf
  rw [if_neg (nI_pos (by omega)), if_pos (nI_lt hq h), tn_nI (by omega)]
theorem p_claim {τ : CT} {q : Nat} (hq : q < cN τ 3) (h : cN τ 3 < 2 ^ 31) : fX7_claimOf τ (nI q) = .inr q := by
  unfold fX7_claimOf
  rw [if_neg (nI_pos (by omega)), if_pos (nI_lt hq h), tn_nI (by omega)]
theorem p_event {τ : CT} {q : Nat} (hq : q < cN τ 4) (h : cN τ 4 < 2 ^ 31) : fX7_eventOf τ (nI q) = .inr q := by
  unfold fX7_eventOf
  rw [if_neg (nI_pos (by omega)), if_pos (nI_lt hq h), tn_nI (by omega)]
theorem p_year {q : Nat} (hq : q < 20) : fX7_checkYear (nI q) = .inr () := by
  unfold fX7_checkYear
  rw [p_in q rfl (Nat.zero_le _) (by omega) (by decide)]
  rfl
theorem p_kind {q : Nat} (hq : q < 4) : fX7_checkKind (nI q) = .inr () := by
  unfold fX7_checkKind
  rw [p_in q rfl (Nat.zero_le _) (by omega) (by decide)]
  rfl
theorem p_loss {q : Nat} (hq : q ≤ 100000000) : fX7_checkLoss (nI q) = .inr () := by
  unfold fX7_checkLoss
  rw [p_in q rfl (Nat.zero_le _) (by omega) (by decide)]
  rfl
theorem xb_inr {α β : Type} (x : α) (f : α → String ⊕ β) : xbindE (.inr x) f = f x := rfl
theorem lc_inr {α β : Type} (bad : β) (x : α) (f : α → β) : lcall bad (.inr x) f = f x := rfl
theorem lb_inl {α β : Type} (x : α) (f : α → β) : lbind (.inl x) f = f x := rfl
theorem lb_inr {α β : Type} (x : β) (f : α → β) : lbind (.inr x) f = x := rfl
theorem xsel_lt {a b : Nat} (ha : a < 2 ^ 31) (hb : b < 2 ^ 31) : (if nI a < nI b then nI a else nI b) = nI (min a b) := by
  by_cases h : a < b
  · rw [if_pos (nI_lt h hb), Nat.min_eq_left (by omega)]
  · rw [if_neg (by rw [nI_ltI ha hb]; exact h), Nat.min_eq_right (by omega)]
theorem xdays {a b : Nat} (ha : a < 2 ^ 30) (hb : b < 2 ^ 30) : (if nI a - nI b < nI 0 then nI 0 else nI a - nI b) = nI (a - b) := by
  by_cases h : b ≤ a
  · rw [pk_sub h, if_neg (by rw [nI_ltI (by omega) (by decide)]; omega)]
  · rw [if_pos (show nI a - nI b < nI 0 from pk_sneg hb (by omega))]
    congr 1; omega
theorem e_daysIn {τ : CT} {k y f u : Nat} (hf : cI τ 22 k = nI f) (hu : cI τ 23 k = nI u) (h1 : f < 2 ^ 29) (h2 : u < 2 ^ 29) (hy : y < 20) : fX1_daysIn τ k y = nI (min ((y + 1) * 100) u - max f (y * 100)) := by
  unfold fX1_daysIn
  rw [hf, hu]
  have e1 : (if nI ((y + 1) * 100) < nI u then nI ((y + 1) * 100) else nI u) = nI (min ((y + 1) * 100) u) := xsel_lt (by omega) (by omega)
  have e2 : (if nI f < nI (y * 100) then nI (y * 100) else nI f) = nI (max f (y * 100)) := by
    by_cases h : f < y * 100
    · rw [if_pos (nI_lt h (by omega)), Nat.max_eq_right (by omega)]
    · rw [if_neg (by rw [nI_ltI (by omega) (by omega)]; exact h), Nat.max_eq_left (by omega)]
  rw [e1, e2]
  exact xdays (by omega) (by omega)
