/-! the class's state, by tables; ad: the address of the i-th cell of a kind, fa: what the arrays of references hold -/
abbrev CT : Type := (Nat → Nat → Int32) × (Nat → Nat → Int64) × (Nat → Nat → Nat) × (Nat → Nat → Nat → Int32) × (Nat → Nat → Int64)
def cI (τ : CT) (t i : Nat) : Int32 := τ.1 t i
def cL (τ : CT) (t i : Nat) : Int64 := τ.2.1 t i
def cK (τ : CT) (t i : Nat) : Nat := τ.2.2.1 t i
def cN (τ : CT) (t : Nat) : Nat := τ.2.2.1 t 0
def cM (τ : CT) (a m y : Nat) : Int32 := τ.2.2.2.1 a m y
def cD (τ : CT) (m y : Nat) : Int64 := τ.2.2.2.2 m y
def cSI (τ : CT) (t i : Nat) (v : Int32) : CT := (fun a b => if a = t ∧ b = i then v else τ.1 a b, τ.2)
def cSL (τ : CT) (t i : Nat) (v : Int64) : CT := (τ.1, fun a b => if a = t ∧ b = i then v else τ.2.1 a b, τ.2.2)
def cSK (τ : CT) (t i : Nat) (v : Nat) : CT := (τ.1, τ.2.1, fun a b => if a = t ∧ b = i then v else τ.2.2.1 a b, τ.2.2.2)
def cSM (τ : CT) (t m y : Nat) (v : Int32) : CT := (τ.1, τ.2.1, τ.2.2.1, fun a b d => if a = t ∧ b = m ∧ d = y then v else τ.2.2.2.1 a b d, τ.2.2.2.2)
def cSD (τ : CT) (m y : Nat) (v : Int64) : CT := (τ.1, τ.2.1, τ.2.2.1, τ.2.2.2.1, fun b d => if b = m ∧ d = y then v else τ.2.2.2.2 b d)
theorem cSI_I (τ : CT) (t i : Nat) (v : Int32) (a b : Nat) : cI (cSI τ t i v) a b = if a = t ∧ b = i then v else cI τ a b := rfl
theorem cSI_L (τ : CT) (t i : Nat) (v : Int32) (a b : Nat) : cL (cSI τ t i v) a b = cL τ a b := rfl
theorem cSI_K (τ : CT) (t i : Nat) (v : Int32) (a b : Nat) : cK (cSI τ t i v) a b = cK τ a b := rfl
theorem cSI_N (τ : CT) (t i : Nat) (v : Int32) (a : Nat) : cN (cSI τ t i v) a = cN τ a := rfl
theorem cSI_M (τ : CT) (t i : Nat) (v : Int32) (a b d : Nat) : cM (cSI τ t i v) a b d = cM τ a b d := rfl
theorem cSI_D (τ : CT) (t i : Nat) (v : Int32) (b d : Nat) : cD (cSI τ t i v) b d = cD τ b d := rfl
theorem cSL_I (τ : CT) (t i : Nat) (v : Int64) (a b : Nat) : cI (cSL τ t i v) a b = cI τ a b := rfl
theorem cSL_L (τ : CT) (t i : Nat) (v : Int64) (a b : Nat) : cL (cSL τ t i v) a b = if a = t ∧ b = i then v else cL τ a b := rfl
theorem cSL_K (τ : CT) (t i : Nat) (v : Int64) (a b : Nat) : cK (cSL τ t i v) a b = cK τ a b := rfl
theorem cSL_N (τ : CT) (t i : Nat) (v : Int64) (a : Nat) : cN (cSL τ t i v) a = cN τ a := rfl
theorem cSL_M (τ : CT) (t i : Nat) (v : Int64) (a b d : Nat) : cM (cSL τ t i v) a b d = cM τ a b d := rfl
theorem cSL_D (τ : CT) (t i : Nat) (v : Int64) (b d : Nat) : cD (cSL τ t i v) b d = cD τ b d := rfl
theorem cSK_I (τ : CT) (t i v a b : Nat) : cI (cSK τ t i v) a b = cI τ a b := rfl
theorem cSK_L (τ : CT) (t i v a b : Nat) : cL (cSK τ t i v) a b = cL τ a b := rfl
theorem cSK_K (τ : CT) (t i v a b : Nat) : cK (cSK τ t i v) a b = if a = t ∧ b = i then v else cK τ a b := rfl
theorem cSK_N (τ : CT) (t i v a : Nat) : cN (cSK τ t i v) a = if a = t ∧ 0 = i then v else cN τ a := rfl
theorem cSK_M (τ : CT) (t i v a b d : Nat) : cM (cSK τ t i v) a b d = cM τ a b d := rfl
theorem cSK_D (τ : CT) (t i v b d : Nat) : cD (cSK τ t i v) b d = cD τ b d := rfl
theorem cSM_I (τ : CT) (t m y : Nat) (v : Int32) (a b : Nat) : cI (cSM τ t m y v) a b = cI τ a b := rfl
theorem cSM_L (τ : CT) (t m y : Nat) (v : Int32) (a b : Nat) : cL (cSM τ t m y v) a b = cL τ a b := rfl
theorem cSM_K (τ : CT) (t m y : Nat) (v : Int32) (a b : Nat) : cK (cSM τ t m y v) a b = cK τ a b := rfl
theorem cSM_N (τ : CT) (t m y : Nat) (v : Int32) (a : Nat) : cN (cSM τ t m y v) a = cN τ a := rfl
theorem cSM_M (τ : CT) (t m y : Nat) (v : Int32) (a b d : Nat) : cM (cSM τ t m y v) a b d = if a = t ∧ b = m ∧ d = y then v else cM τ a b d := rfl
theorem cSM_D (τ : CT) (t m y : Nat) (v : Int32) (b d : Nat) : cD (cSM τ t m y v) b d = cD τ b d := rfl
theorem cSD_I (τ : CT) (m y : Nat) (v : Int64) (a b : Nat) : cI (cSD τ m y v) a b = cI τ a b := rfl
theorem cSD_L (τ : CT) (m y : Nat) (v : Int64) (a b : Nat) : cL (cSD τ m y v) a b = cL τ a b := rfl
theorem cSD_K (τ : CT) (m y : Nat) (v : Int64) (a b : Nat) : cK (cSD τ m y v) a b = cK τ a b := rfl
theorem cSD_N (τ : CT) (m y : Nat) (v : Int64) (a : Nat) : cN (cSD τ m y v) a = cN τ a := rfl
theorem cSD_M (τ : CT) (m y : Nat) (v : Int64) (a b d : Nat) : cM (cSD τ m y v) a b d = cM τ a b d := rfl
theorem cSD_D (τ : CT) (m y : Nat) (v : Int64) (b d : Nat) : cD (cSD τ m y v) b d = if b = m ∧ d = y then v else cD τ b d := rfl
def cO (E : Nat → ClassId) (τ : CT) (ad : Nat → Nat → Nat) (fa : Nat → Nat → Option Nat) (K i : Nat) : va_E := match K with
  | 0 => .inr (7, [.ref (ad 1 0), .ref (ad 2 0), .ref (ad 3 0), .ref (ad 4 0), .ref (ad 5 0), .ref (ad 6 0), .ref (ad 7 0), .int (nI (cN τ 0)), .int (nI (cN τ 1)), .int (nI (cN τ 2)), .int (nI (cN τ 3)), .int (nI (cN τ 4)), .int (nI (cN τ 5)), .long (cL τ 0 0)])
  | 1 => .inl (E 3, 12, .inr (.inr (.inr (.inr (fa 1)))))
  | 2 => .inl (E 4, 24, .inr (.inr (.inr (.inr (fa 2)))))
  | 3 => .inl (E 5, 60, .inr (.inr (.inr (.inr (fa 3)))))
  | 4 => .inl (E 6, 60, .inr (.inr (.inr (.inr (fa 4)))))
  | 5 => .inl (E 7, 60, .inr (.inr (.inr (.inr (fa 5)))))
  | 6 => .inl (E 8, 20, .inr (.inr (.inr (.inr (fa 6)))))
  | 7 => .inr (4, [.ref (ad 8 0), .ref (ad 9 0)])
  | 8 => .inl (E 0, 80, .inl (cI τ 38))
  | 9 => .inl (E 0, 80, .inl (cI τ 39))
  | 10 => .inr (3, [.ref (ad 11 i), .ref (ad 12 i), .ref (ad 13 i), .long (cL τ 20 i), .int (cI τ 20 i)])
  | 11 => .inl (E 0, 20, .inl (cM τ 0 i))
  | 12 => .inl (E 2, 20, .inl (cM τ 1 i))
  | 13 => .inl (E 1, 20, .inr (.inl (cD τ i)))
  | 14 => .inr (5, [.ref (ad 10 (cK τ 10 i)), .int (cI τ 21 i), va_rf (if cK τ 14 i = 0 then none else some (ad 15 (cK τ 14 i - 1))), .long (cL τ 21 i)])
  | 15 => .inr (1, [.ref (ad 14 (cK τ 11 i)), .int (cI τ 22 i), .int (cI τ 23 i)])
  | 16 => .inr (0, [.ref (ad 14 (cK τ 12 i)), .int (nI (cK τ 15 i)), .ref (ad 17 (cK τ 13 i)), .int (cI τ 24 i), .int (cI τ 25 i), .int (cI τ 26 i), .int (cI τ 27 i), .int (cI τ 28 i)])
  | 17 => .inr (2, [.int (cI τ 29 i), .int (nI (cK τ 16 i)), .int (cI τ 30 i)])
  | 18 => .inr (6, [.int (cI τ 31 i), .int (cI τ 32 i), .int (cI τ 33 i), .int (cI τ 34 i), .int (cI τ 35 i), .int (cI τ 36 i), .int (cI τ 37 i)])
  | _ => .inl (0, 0, .inl (fun _ => 0))
def clive (τ : CT) (K i : Nat) : Prop := match K with
  | 0 => i = 0
  | 1 => i = 0
  | 2 => i = 0
  | 3 => i = 0
  | 4 => i = 0
  | 5 => i = 0
  | 6 => i = 0
  | 7 => i = 0
  | 8 => i = 0
  | 9 => i = 0
  | 10 => i < cN τ 0
  | 11 => i < cN τ 0
  | 12 => i < cN τ 0
  | 13 => i < cN τ 0
  | 14 => i < cN τ 1
  | 15 => i < cN τ 2
  | 16 => i < cN τ 3
  | 17 => i < cN τ 4
  | 18 => i < 20
  | _ => False
def RC (E : Nat → ClassId) (Pr : Nat → Prop) (τ : CT) (ad : Nat → Nat → Nat) (fa : Nat → Nat → Option Nat) (h : XW) : Prop :=
  (∀ K i, clive τ K i → h (ad K i) = some (cO E τ ad fa K i)) ∧
  (∀ K i K' i', clive τ K i → clive τ K' i' → ad K i = ad K' i' → K = K' ∧ i = i') ∧
  (∀ K i, clive τ K i → ¬ Pr (ad K i)) ∧ (∀ q, Pr q → h q ≠ none) ∧
  ((∀ j, j < cN τ 0 → fa 1 j = some (ad 10 j)) ∧ (∀ j, j < cN τ 1 → fa 2 j = some (ad 14 j)) ∧ (∀ j, j < cN τ 2 → fa 3 j = some (ad 15 j)) ∧ (∀ j, j < cN τ 3 → fa 4 j = some (ad 16 j)) ∧ (∀ j, j < cN τ 4 → fa 5 j = some (ad 17 j)) ∧ (∀ j, j < 20 → fa 6 j = some (ad 18 j)))
def cF (Pr : Nat → Prop) (h h1 : XW) : Prop := ∀ q, Pr q → h1 q = h q
theorem cF.rf {Pr : Nat → Prop} {h : XW} : cF Pr h h := fun _ _ => rfl
theorem cF.tr {Pr : Nat → Prop} {h h1 h2 : XW} (a : cF Pr h h1) (b : cF Pr h1 h2) : cF Pr h h2 := fun q hq => (b q hq).trans (a q hq)
theorem cF.put {Pr : Nat → Prop} {h h1 : XW} {a : Nat} {e : va_E} (hF : cF Pr h h1) (ha : ¬ Pr a) : cF Pr h (hset h1 a e) := fun q hq => by rw [hset_n (fun z : q = a => ha (by rw [← z]; exact hq))]; exact hF q hq
def CW (τ : CT) : Prop :=
  (cN τ 0 ≤ 12 ∧ cN τ 1 ≤ 24 ∧ cN τ 2 ≤ 60 ∧ cN τ 3 ≤ 60 ∧ cN τ 4 ≤ 60 ∧ cN τ 5 < 2000) ∧
  (∀ i, i < cN τ 1 → cK τ 10 i < cN τ 0) ∧ (∀ i, i < cN τ 2 → cK τ 11 i < cN τ 1) ∧ (∀ i, i < cN τ 3 → cK τ 12 i < cN τ 1) ∧ (∀ i, i < cN τ 3 → cK τ 13 i < cN τ 4) ∧
  (∀ i, i < cN τ 1 → cK τ 14 i ≤ cN τ 2) ∧ (∀ i, i < cN τ 3 → cK τ 15 i < 4) ∧ (∀ i, i < cN τ 4 → cK τ 16 i < 2000) ∧
  (∀ m y, cM τ 1 m y = 0 ∨ cM τ 1 m y = 1) ∧ (∀ i, cI τ 26 i = 0 ∨ cI τ 26 i = 1) ∧ (∀ i, cI τ 27 i = 0 ∨ cI τ 27 i = 1) ∧ (∀ i, cI τ 28 i = 0 ∨ cI τ 28 i = 1) ∧ (∀ i, cI τ 33 i = 0 ∨ cI τ 33 i = 1) ∧ (∀ i, cI τ 34 i = 0 ∨ cI τ 34 i = 1)
section RCP
variable {E : Nat → ClassId} {Pr : Nat → Prop} {τ : CT} {ad : Nat → Nat → Nat} {fa : Nat → Nat → Option Nat} {h : XW}
theorem RC.f0 (hR : RC E Pr τ ad fa h) : h (ad 0 0) = some (.inr (7, [.ref (ad 1 0), .ref (ad 2 0), .ref (ad 3 0), .ref (ad 4 0), .ref (ad 5 0), .ref (ad 6 0), .ref (ad 7 0), .int (nI (cN τ 0)), .int (nI (cN τ 1)), .int (nI (cN τ 2)), .int (nI (cN τ 3)), .int (nI (cN τ 4)), .int (nI (cN τ 5)), .long (cL τ 0 0)])) := hR.1 0 0 rfl
theorem RC.f1 (hR : RC E Pr τ ad fa h) : h (ad 1 0) = some (.inl (E 3, 12, .inr (.inr (.inr (.inr (fa 1)))))) := hR.1 1 0 rfl
theorem RC.f2 (hR : RC E Pr τ ad fa h) : h (ad 2 0) = some (.inl (E 4, 24, .inr (.inr (.inr (.inr (fa 2)))))) := hR.1 2 0 rfl
theorem RC.f3 (hR : RC E Pr τ ad fa h) : h (ad 3 0) = some (.inl (E 5, 60, .inr (.inr (.inr (.inr (fa 3)))))) := hR.1 3 0 rfl
theorem RC.f4 (hR : RC E Pr τ ad fa h) : h (ad 4 0) = some (.inl (E 6, 60, .inr (.inr (.inr (.inr (fa 4)))))) := hR.1 4 0 rfl
theorem RC.f5 (hR : RC E Pr τ ad fa h) : h (ad 5 0) = some (.inl (E 7, 60, .inr (.inr (.inr (.inr (fa 5)))))) := hR.1 5 0 rfl
theorem RC.f6 (hR : RC E Pr τ ad fa h) : h (ad 6 0) = some (.inl (E 8, 20, .inr (.inr (.inr (.inr (fa 6)))))) := hR.1 6 0 rfl
theorem RC.f7 (hR : RC E Pr τ ad fa h) : h (ad 7 0) = some (.inr (4, [.ref (ad 8 0), .ref (ad 9 0)])) := hR.1 7 0 rfl
theorem RC.f8 (hR : RC E Pr τ ad fa h) : h (ad 8 0) = some (.inl (E 0, 80, .inl (cI τ 38))) := hR.1 8 0 rfl
theorem RC.f9 (hR : RC E Pr τ ad fa h) : h (ad 9 0) = some (.inl (E 0, 80, .inl (cI τ 39))) := hR.1 9 0 rfl
theorem RC.f10 (hR : RC E Pr τ ad fa h) {i : Nat} (hi : i < cN τ 0) : h (ad 10 i) = some (.inr (3, [.ref (ad 11 i), .ref (ad 12 i), .ref (ad 13 i), .long (cL τ 20 i), .int (cI τ 20 i)])) := hR.1 10 i hi
theorem RC.f11 (hR : RC E Pr τ ad fa h) {i : Nat} (hi : i < cN τ 0) : h (ad 11 i) = some (.inl (E 0, 20, .inl (cM τ 0 i))) := hR.1 11 i hi
theorem RC.f12 (hR : RC E Pr τ ad fa h) {i : Nat} (hi : i < cN τ 0) : h (ad 12 i) = some (.inl (E 2, 20, .inl (cM τ 1 i))) := hR.1 12 i hi
theorem RC.f13 (hR : RC E Pr τ ad fa h) {i : Nat} (hi : i < cN τ 0) : h (ad 13 i) = some (.inl (E 1, 20, .inr (.inl (cD τ i)))) := hR.1 13 i hi
theorem RC.f14 (hR : RC E Pr τ ad fa h) {i : Nat} (hi : i < cN τ 1) : h (ad 14 i) = some (.inr (5, [.ref (ad 10 (cK τ 10 i)), .int (cI τ 21 i), va_rf (if cK τ 14 i = 0 then none else some (ad 15 (cK τ 14 i - 1))), .long (cL τ 21 i)])) := hR.1 14 i hi
theorem RC.f15 (hR : RC E Pr τ ad fa h) {i : Nat} (hi : i < cN τ 2) : h (ad 15 i) = some (.inr (1, [.ref (ad 14 (cK τ 11 i)), .int (cI τ 22 i), .int (cI τ 23 i)])) := hR.1 15 i hi
theorem RC.f16 (hR : RC E Pr τ ad fa h) {i : Nat} (hi : i < cN τ 3) : h (ad 16 i) = some (.inr (0, [.ref (ad 14 (cK τ 12 i)), .int (nI (cK τ 15 i)), .ref (ad 17 (cK τ 13 i)), .int (cI τ 24 i), .int (cI τ 25 i), .int (cI τ 26 i), .int (cI τ 27 i), .int (cI τ 28 i)])) := hR.1 16 i hi
theorem RC.f17 (hR : RC E Pr τ ad fa h) {i : Nat} (hi : i < cN τ 4) : h (ad 17 i) = some (.inr (2, [.int (cI τ 29 i), .int (nI (cK τ 16 i)), .int (cI τ 30 i)])) := hR.1 17 i hi
theorem RC.f18 (hR : RC E Pr τ ad fa h) {i : Nat} (hi : i < 20) : h (ad 18 i) = some (.inr (6, [.int (cI τ 31 i), .int (cI τ 32 i), .int (cI τ 33 i), .int (cI τ 34 i), .int (cI τ 35 i), .int (cI τ 36 i), .int (cI τ 37 i)])) := hR.1 18 i hi
theorem RC.eqi (hR : RC E Pr τ ad fa h) {K i j : Nat} (hi : clive τ K i) (hj : clive τ K j) : ad K i = ad K j ↔ i = j := ⟨fun z => (hR.2.1 K i K j hi hj z).2, fun z => by rw [z]⟩
/-- one cell anew, the rest of the picture as it was -/
theorem RC.put (hR : RC E Pr τ ad fa h) {K i : Nat} (hl : clive τ K i) {τ1 : CT} {e : va_E} (hN : ∀ t, t < 5 → cN τ1 t = cN τ t) (he : e = cO E τ1 ad fa K i) (hO : ∀ K' i', clive τ K' i' → ¬ (K' = K ∧ i' = i) → cO E τ1 ad fa K' i' = cO E τ ad fa K' i') : RC E Pr τ1 ad fa (hset h (ad K i) e) := by
  have hlv : ∀ K' i', clive τ1 K' i' → clive τ K' i' := by
    intro K' i' q
    have n0 := hN 0 (by decide)
    have n1 := hN 1 (by decide)
    have n2 := hN 2 (by decide)
    have n3 := hN 3 (by decide)
    have n4 := hN 4 (by decide)
    match K', q with

    | 0, q => exact q
    | 1, q => exact q
    | 2, q => exact q
    | 3, q => exact q
    | 4, q => exact q
    | 5, q => exact q
    | 6, q => exact q
    | 7, q => exact q
    | 8, q => exact q
    | 9, q => exact q
    | 10, q => exact (by have q2 : i' < cN τ1 0 := q; rw [n0] at q2; exact q2)
    | 11, q => exact (by have q2 : i' < cN τ1 0 := q; rw [n0] at q2; exact q2)
    | 12, q => exact (by have q2 : i' < cN τ1 0 := q; rw [n0] at q2; exact q2)
    | 13, q => exact (by have q2 : i' < cN τ1 0 := q; rw [n0] at q2; exact q2)
    | 14, q => exact (by have q2 : i' < cN τ1 1 := q; rw [n1] at q2; exact q2)
    | 15, q => exact (by have q2 : i' < cN τ1 2 := q; rw [n2] at q2; exact q2)
    | 16, q => exact (by have q2 : i' < cN τ1 3 := q; rw [n3] at q2; exact q2)
    | 17, q => exact (by have q2 : i' < cN τ1 4 := q; rw [n4] at q2; exact q2)
    | 18, q => exact q
  refine ⟨fun K' i' q => ?_, fun a b c d q1 q2 => hR.2.1 a b c d (hlv a b q1) (hlv c d q2), fun a b q => hR.2.2.1 a b (hlv a b q), fun q hq => ?_, ?_⟩
  · by_cases hk : K' = K ∧ i' = i
    · rw [hk.1, hk.2, hset_s, he]
    · rw [hset_n (fun z => hk (hR.2.1 K' i' K i (hlv _ _ q) hl z)), hO K' i' (hlv _ _ q) hk]
      exact hR.1 K' i' (hlv _ _ q)
  · by_cases hz : q = ad K i
    · rw [hz, hset_s]; exact fun z => by cases z
    · rw [hset_n hz]; exact hR.2.2.2.1 q hq
  · rw [hN 0 (by decide), hN 1 (by decide), hN 2 (by decide), hN 3 (by decide), hN 4 (by decide)]
    exact hR.2.2.2.2
theorem RC.p16_3 (hR : RC E Pr τ ad fa h) {i : Nat} (hi : i < cN τ 3) (v : Int32) : RC E Pr (cSI τ 24 i v) ad fa (hset h (ad 16 i) (.inr (0, [.ref (ad 14 (cK τ 12 i)), .int (nI (cK τ 15 i)), .ref (ad 17 (cK τ 13 i)), .int v, .int (cI τ 25 i), .int (cI τ 26 i), .int (cI τ 27 i), .int (cI τ 28 i)]))) := by
  refine hR.put (K := 16) (i := i) hi (fun t ht => rfl) ?_ (fun K' i' hl hne => ?_)
  · show _ = (.inr (0, [.ref (ad 14 (cK (cSI τ 24 i v) 12 i)), .int (nI (cK (cSI τ 24 i v) 15 i)), .ref (ad 17 (cK (cSI τ 24 i v) 13 i)), .int (cI (cSI τ 24 i v) 24 i), .int (cI (cSI τ 24 i v) 25 i), .int (cI (cSI τ 24 i v) 26 i), .int (cI (cSI τ 24 i v) 27 i), .int (cI (cSI τ 24 i v) 28 i)]) : va_E)
    first | (simp [cSI_I, cSI_L, cSI_K, cSI_N, cSI_M, cSI_D, cSL_I, cSL_L, cSL_K, cSL_N, cSL_M, cSL_D, cSK_I, cSK_L, cSK_K, cSK_N, cSK_M, cSK_D, cSM_I, cSM_L, cSM_K, cSM_N, cSM_M, cSM_D, cSD_I, cSD_L, cSD_K, cSD_N, cSD_M, cSD_D]; done) | (simp [cSI_I, cSI_L, cSI_K, cSI_N, cSI_M, cSI_D, cSL_I, cSL_L, cSL_K, cSL_N, cSL_M, cSL_D, cSK_I, cSK_L, cSK_K, cSK_N, cSK_M, cSK_D, cSM_I, cSM_L, cSM_K, cSM_N, cSM_M, cSM_D, cSD_I, cSD_L, cSD_K, cSD_N, cSD_M, cSD_D]; rfl)
  · match K', hl, hne with
    | 0, _, _ => rfl
    | 1, _, _ => rfl
    | 2, _, _ => rfl
    | 3, _, _ => rfl
    | 4, _, _ => rfl
    | 5, _, _ => rfl
    | 6, _, _ => rfl
    | 7, _, _ => rfl
    | 8, _, _ => rfl
    | 9, _, _ => rfl
    | 10, _, _ => rfl
    | 11, _, _ => rfl
    | 12, _, _ => rfl
    | 13, _, _ => rfl
    | 14, _, _ => rfl
    | 15, _, _ => rfl
    | 16, hl, hne =>
      have h9 : ¬ i' = i := fun z => hne ⟨rfl, z⟩
      show (.inr (0, [.ref (ad 14 (cK (cSI τ 24 i v) 12 i')), .int (nI (cK (cSI τ 24 i v) 15 i')), .ref (ad 17 (cK (cSI τ 24 i v) 13 i')), .int (cI (cSI τ 24 i v) 24 i'), .int (cI (cSI τ 24 i v) 25 i'), .int (cI (cSI τ 24 i v) 26 i'), .int (cI (cSI τ 24 i v) 27 i'), .int (cI (cSI τ 24 i v) 28 i')]) : va_E) = (.inr (0, [.ref (ad 14 (cK τ 12 i')), .int (nI (cK τ 15 i')), .ref (ad 17 (cK τ 13 i')), .int (cI τ 24 i'), .int (cI τ 25 i'), .int (cI τ 26 i'), .int (cI τ 27 i'), .int (cI τ 28 i')]) : va_E)
      first | (simp [cSI_I, cSI_L, cSI_K, cSI_N, cSI_M, cSI_D, cSL_I, cSL_L, cSL_K, cSL_N, cSL_M, cSL_D, cSK_I, cSK_L, cSK_K, cSK_N, cSK_M, cSK_D, cSM_I, cSM_L, cSM_K, cSM_N, cSM_M, cSM_D, cSD_I, cSD_L, cSD_K, cSD_N, cSD_M, cSD_D, h9]; done) | (simp [cSI_I, cSI_L, cSI_K, cSI_N, cSI_M, cSI_D, cSL_I, cSL_L, cSL_K, cSL_N, cSL_M, cSL_D, cSK_I, cSK_L, cSK_K, cSK_N, cSK_M, cSK_D, cSM_I, cSM_L, cSM_K, cSM_N, cSM_M, cSM_D, cSD_I, cSD_L, cSD_K, cSD_N, cSD_M, cSD_D, h9]; rfl) | (simp [cSI_I, cSI_L, cSI_K, cSI_N, cSI_M, cSI_D, cSL_I, cSL_L, cSL_K, cSL_N, cSL_M, cSL_D, cSK_I, cSK_L, cSK_K, cSK_N, cSK_M, cSK_D, cSM_I, cSM_L, cSM_K, cSM_N, cSM_M, cSM_D, cSD_I, cSD_L, cSD_K, cSD_N, cSD_M, cSD_D, h9]; funext b; simp [cSI_I, cSI_L, cSI_K, cSI_N, cSI_M, cSI_D, cSL_I, cSL_L, cSL_K, cSL_N, cSL_M, cSL_D, cSK_I, cSK_L, cSK_K, cSK_N, cSK_M, cSK_D, cSM_I, cSM_L, cSM_K, cSM_N, cSM_M, cSM_D, cSD_I, cSD_L, cSD_K, cSD_N, cSD_M, cSD_D, h9])
    | 17, _, _ => rfl
    | 18, _, _ => rfl
theorem RC.p16_4 (hR : RC E Pr τ ad fa h) {i : Nat} (hi : i < cN τ 3) (v : Int32) : RC E Pr (cSI τ 25 i v) ad fa (hset h (ad 16 i) (.inr (0, [.ref (ad 14 (cK τ 12 i)), .int (nI (cK τ 15 i)), .ref (ad 17 (cK τ 13 i)), .int (cI τ 24 i), .int v, .int (cI τ 26 i), .int (cI τ 27 i), .int (cI τ 28 i)]))) := by
  refine hR.put (K := 16) (i := i) hi (fun t ht => rfl) ?_ (fun K' i' hl hne => ?_)
  · show _ = (.inr (0, [.ref (ad 14 (cK (cSI τ 25 i v) 12 i)), .int (nI (cK (cSI τ 25 i v) 15 i)), .ref (ad 17 (cK (cSI τ 25 i v) 13 i)), .int (cI (cSI τ 25 i v) 24 i), .int (cI (cSI τ 25 i v) 25 i), .int (cI (cSI τ 25 i v) 26 i), .int (cI (cSI τ 25 i v) 27 i), .int (cI (cSI τ 25 i v) 28 i)]) : va_E)
    first | (simp [cSI_I, cSI_L, cSI_K, cSI_N, cSI_M, cSI_D, cSL_I, cSL_L, cSL_K, cSL_N, cSL_M, cSL_D, cSK_I, cSK_L, cSK_K, cSK_N, cSK_M, cSK_D, cSM_I, cSM_L, cSM_K, cSM_N, cSM_M, cSM_D, cSD_I, cSD_L, cSD_K, cSD_N, cSD_M, cSD_D]; done) | (simp [cSI_I, cSI_L, cSI_K, cSI_N, cSI_M, cSI_D, cSL_I, cSL_L, cSL_K, cSL_N, cSL_M, cSL_D, cSK_I, cSK_L, cSK_K, cSK_N, cSK_M, cSK_D, cSM_I, cSM_L, cSM_K, cSM_N, cSM_M, cSM_D, cSD_I, cSD_L, cSD_K, cSD_N, cSD_M, cSD_D]; rfl)
  · match K', hl, hne with
    | 0, _, _ => rfl
    | 1, _, _ => rfl
    | 2, _, _ => rfl
    | 3, _, _ => rfl
    | 4, _, _ => rfl
    | 5, _, _ => rfl
    | 6, _, _ => rfl
    | 7, _, _ => rfl
    | 8, _, _ => rfl
    | 9, _, _ => rfl
    | 10, _, _ => rfl
    | 11, _, _ => rfl
    | 12, _, _ => rfl
    | 13, _, _ => rfl
    | 14, _, _ => rfl
    | 15, _, _ => rfl
    | 16, hl, hne =>
      have h9 : ¬ i' = i := fun z => hne ⟨rfl, z⟩
      show (.inr (0, [.ref (ad 14 (cK (cSI τ 25 i v) 12 i')), .int (nI (cK (cSI τ 25 i v) 15 i')), .ref (ad 17 (cK (cSI τ 25 i v) 13 i')), .int (cI (cSI τ 25 i v) 24 i'), .int (cI (cSI τ 25 i v) 25 i'), .int (cI (cSI τ 25 i v) 26 i'), .int (cI (cSI τ 25 i v) 27 i'), .int (cI (cSI τ 25 i v) 28 i')]) : va_E) = (.inr (0, [.ref (ad 14 (cK τ 12 i')), .int (nI (cK τ 15 i')), .ref (ad 17 (cK τ 13 i')), .int (cI τ 24 i'), .int (cI τ 25 i'), .int (cI τ 26 i'), .int (cI τ 27 i'), .int (cI τ 28 i')]) : va_E)
      first | (simp [cSI_I, cSI_L, cSI_K, cSI_N, cSI_M, cSI_D, cSL_I, cSL_L, cSL_K, cSL_N, cSL_M, cSL_D, cSK_I, cSK_L, cSK_K, cSK_N, cSK_M, cSK_D, cSM_I, cSM_L, cSM_K, cSM_N, cSM_M, cSM_D, cSD_I, cSD_L, cSD_K, cSD_N, cSD_M, cSD_D, h9]; done) | (simp [cSI_I, cSI_L, cSI_K, cSI_N, cSI_M, cSI_D, cSL_I, cSL_L, cSL_K, cSL_N, cSL_M, cSL_D, cSK_I, cSK_L, cSK_K, cSK_N, cSK_M, cSK_D, cSM_I, cSM_L, cSM_K, cSM_N, cSM_M, cSM_D, cSD_I, cSD_L, cSD_K, cSD_N, cSD_M, cSD_D, h9]; rfl) | (simp [cSI_I, cSI_L, cSI_K, cSI_N, cSI_M, cSI_D, cSL_I, cSL_L, cSL_K, cSL_N, cSL_M, cSL_D, cSK_I, cSK_L, cSK_K, cSK_N, cSK_M, cSK_D, cSM_I, cSM_L, cSM_K, cSM_N, cSM_M, cSM_D, cSD_I, cSD_L, cSD_K, cSD_N, cSD_M, cSD_D, h9]; funext b; simp [cSI_I, cSI_L, cSI_K, cSI_N, cSI_M, cSI_D, cSL_I, cSL_L, cSL_K, cSL_N, cSL_M, cSL_D, cSK_I, cSK_L, cSK_K, cSK_N, cSK_M, cSK_D, cSM_I, cSM_L, cSM_K, cSM_N, cSM_M, cSM_D, cSD_I, cSD_L, cSD_K, cSD_N, cSD_M, cSD_D, h9])
    | 17, _, _ => rfl
    | 18, _, _ => rfl
theorem RC.p16_5 (hR : RC E Pr τ ad fa h) {i : Nat} (hi : i < cN τ 3) (v : Int32) : RC E Pr (cSI τ 26 i v) ad fa (hset h (ad 16 i) (.inr (0, [.ref (ad 14 (cK τ 12 i)), .int (nI (cK τ 15 i)), .ref (ad 17 (cK τ 13 i)), .int (cI τ 24 i), .int (cI τ 25 i), .int v, .int (cI τ 27 i), .int (cI τ 28 i)]))) := by
  refine hR.put (K := 16) (i := i) hi (fun t ht => rfl) ?_ (fun K' i' hl hne => ?_)
  · show _ = (.inr (0, [.ref (ad 14 (cK (cSI τ 26 i v) 12 i)), .int (nI (cK (cSI τ 26 i v) 15 i)), .ref (ad 17 (cK (cSI τ 26 i v) 13 i)), .int (cI (cSI τ 26 i v) 24 i), .int (cI (cSI τ 26 i v) 25 i), .int (cI (cSI τ 26 i v) 26 i), .int (cI (cSI τ 26 i v) 27 i), .int (cI (cSI τ 26 i v) 28 i)]) : va_E)
    first | (simp [cSI_I, cSI_L, cSI_K, cSI_N, cSI_M, cSI_D, cSL_I, cSL_L, cSL_K, cSL_N, cSL_M, cSL_D, cSK_I, cSK_L, cSK_K, cSK_N, cSK_M, cSK_D, cSM_I, cSM_L, cSM_K, cSM_N, cSM_M, cSM_D, cSD_I, cSD_L, cSD_K, cSD_N, cSD_M, cSD_D]; done) | (simp [cSI_I, cSI_L, cSI_K, cSI_N, cSI_M, cSI_D, cSL_I, cSL_L, cSL_K, cSL_N, cSL_M, cSL_D, cSK_I, cSK_L, cSK_K, cSK_N, cSK_M, cSK_D, cSM_I, cSM_L, cSM_K, cSM_N, cSM_M, cSM_D, cSD_I, cSD_L, cSD_K, cSD_N, cSD_M, cSD_D]; rfl)
  · match K', hl, hne with
    | 0, _, _ => rfl
    | 1, _, _ => rfl
    | 2, _, _ => rfl
    | 3, _, _ => rfl
    | 4, _, _ => rfl
    | 5, _, _ => rfl
    | 6, _, _ => rfl
    | 7, _, _ => rfl
    | 8, _, _ => rfl
    | 9, _, _ => rfl
    | 10, _, _ => rfl
    | 11, _, _ => rfl
    | 12, _, _ => rfl
    | 13, _, _ => rfl
    | 14, _, _ => rfl
    | 15, _, _ => rfl
    | 16, hl, hne =>
      have h9 : ¬ i' = i := fun z => hne ⟨rfl, z⟩
      show (.inr (0, [.ref (ad 14 (cK (cSI τ 26 i v) 12 i')), .int (nI (cK (cSI τ 26 i v) 15 i')), .ref (ad 17 (cK (cSI τ 26 i v) 13 i')), .int (cI (cSI τ 26 i v) 24 i'), .int (cI (cSI τ 26 i v) 25 i'), .int (cI (cSI τ 26 i v) 26 i'), .int (cI (cSI τ 26 i v) 27 i'), .int (cI (cSI τ 26 i v) 28 i')]) : va_E) = (.inr (0, [.ref (ad 14 (cK τ 12 i')), .int (nI (cK τ 15 i')), .ref (ad 17 (cK τ 13 i')), .int (cI τ 24 i'), .int (cI τ 25 i'), .int (cI τ 26 i'), .int (cI τ 27 i'), .int (cI τ 28 i')]) : va_E)
      first | (simp [cSI_I, cSI_L, cSI_K, cSI_N, cSI_M, cSI_D, cSL_I, cSL_L, cSL_K, cSL_N, cSL_M, cSL_D, cSK_I, cSK_L, cSK_K, cSK_N, cSK_M, cSK_D, cSM_I, cSM_L, cSM_K, cSM_N, cSM_M, cSM_D, cSD_I, cSD_L, cSD_K, cSD_N, cSD_M, cSD_D, h9]; done) | (simp [cSI_I, cSI_L, cSI_K, cSI_N, cSI_M, cSI_D, cSL_I, cSL_L, cSL_K, cSL_N, cSL_M, cSL_D, cSK_I, cSK_L, cSK_K, cSK_N, cSK_M, cSK_D, cSM_I, cSM_L, cSM_K, cSM_N, cSM_M, cSM_D, cSD_I, cSD_L, cSD_K, cSD_N, cSD_M, cSD_D, h9]; rfl) | (simp [cSI_I, cSI_L, cSI_K, cSI_N, cSI_M, cSI_D, cSL_I, cSL_L, cSL_K, cSL_N, cSL_M, cSL_D, cSK_I, cSK_L, cSK_K, cSK_N, cSK_M, cSK_D, cSM_I, cSM_L, cSM_K, cSM_N, cSM_M, cSM_D, cSD_I, cSD_L, cSD_K, cSD_N, cSD_M, cSD_D, h9]; funext b; simp [cSI_I, cSI_L, cSI_K, cSI_N, cSI_M, cSI_D, cSL_I, cSL_L, cSL_K, cSL_N, cSL_M, cSL_D, cSK_I, cSK_L, cSK_K, cSK_N, cSK_M, cSK_D, cSM_I, cSM_L, cSM_K, cSM_N, cSM_M, cSM_D, cSD_I, cSD_L, cSD_K, cSD_N, cSD_M, cSD_D, h9])
    | 17, _, _ => rfl
    | 18, _, _ => rfl
theorem RC.p16_6 (hR : RC E Pr τ ad fa h) {i : Nat} (hi : i < cN τ 3) (v : Int32) : RC E Pr (cSI τ 27 i v) ad fa (hset h (ad 16 i) (.inr (0, [.ref (ad 14 (cK τ 12 i)), .int (nI (cK τ 15 i)), .ref (ad 17 (cK τ 13 i)), .int (cI τ 24 i), .int (cI τ 25 i), .int (cI τ 26 i), .int v, .int (cI τ 28 i)]))) := by
  refine hR.put (K := 16) (i := i) hi (fun t ht => rfl) ?_ (fun K' i' hl hne => ?_)
  · show _ = (.inr (0, [.ref (ad 14 (cK (cSI τ 27 i v) 12 i)), .int (nI (cK (cSI τ 27 i v) 15 i)), .ref (ad 17 (cK (cSI τ 27 i v) 13 i)), .int (cI (cSI τ 27 i v) 24 i), .int (cI (cSI τ 27 i v) 25 i), .int (cI (cSI τ 27 i v) 26 i), .int (cI (cSI τ 27 i v) 27 i), .int (cI (cSI τ 27 i v) 28 i)]) : va_E)
    first | (simp [cSI_I, cSI_L, cSI_K, cSI_N, cSI_M, cSI_D, cSL_I, cSL_L, cSL_K, cSL_N, cSL_M, cSL_D, cSK_I, cSK_L, cSK_K, cSK_N, cSK_M, cSK_D, cSM_I, cSM_L, cSM_K, cSM_N, cSM_M, cSM_D, cSD_I, cSD_L, cSD_K, cSD_N, cSD_M, cSD_D]; done) | (simp [cSI_I, cSI_L, cSI_K, cSI_N, cSI_M, cSI_D, cSL_I, cSL_L, cSL_K, cSL_N, cSL_M, cSL_D, cSK_I, cSK_L, cSK_K, cSK_N, cSK_M, cSK_D, cSM_I, cSM_L, cSM_K, cSM_N, cSM_M, cSM_D, cSD_I, cSD_L, cSD_K, cSD_N, cSD_M, cSD_D]; rfl)
  · match K', hl, hne with
    | 0, _, _ => rfl
    | 1, _, _ => rfl
    | 2, _, _ => rfl
    | 3, _, _ => rfl
    | 4, _, _ => rfl
    | 5, _, _ => rfl
    | 6, _, _ => rfl
    | 7, _, _ => rfl
    | 8, _, _ => rfl
    | 9, _, _ => rfl
    | 10, _, _ => rfl
    | 11, _, _ => rfl
    | 12, _, _ => rfl
    | 13, _, _ => rfl
    | 14, _, _ => rfl
    | 15, _, _ => rfl
    | 16, hl, hne =>
      have h9 : ¬ i' = i := fun z => hne ⟨rfl, z⟩
      show (.inr (0, [.ref (ad 14 (cK (cSI τ 27 i v) 12 i')), .int (nI (cK (cSI τ 27 i v) 15 i')), .ref (ad 17 (cK (cSI τ 27 i v) 13 i')), .int (cI (cSI τ 27 i v) 24 i'), .int (cI (cSI τ 27 i v) 25 i'), .int (cI (cSI τ 27 i v) 26 i'), .int (cI (cSI τ 27 i v) 27 i'), .int (cI (cSI τ 27 i v) 28 i')]) : va_E) = (.inr (0, [.ref (ad 14 (cK τ 12 i')), .int (nI (cK τ 15 i')), .ref (ad 17 (cK τ 13 i')), .int (cI τ 24 i'), .int (cI τ 25 i'), .int (cI τ 26 i'), .int (cI τ 27 i'), .int (cI τ 28 i')]) : va_E)
      first | (simp [cSI_I, cSI_L, cSI_K, cSI_N, cSI_M, cSI_D, cSL_I, cSL_L, cSL_K, cSL_N, cSL_M, cSL_D, cSK_I, cSK_L, cSK_K, cSK_N, cSK_M, cSK_D, cSM_I, cSM_L, cSM_K, cSM_N, cSM_M, cSM_D, cSD_I, cSD_L, cSD_K, cSD_N, cSD_M, cSD_D, h9]; done) | (simp [cSI_I, cSI_L, cSI_K, cSI_N, cSI_M, cSI_D, cSL_I, cSL_L, cSL_K, cSL_N, cSL_M, cSL_D, cSK_I, cSK_L, cSK_K, cSK_N, cSK_M, cSK_D, cSM_I, cSM_L, cSM_K, cSM_N, cSM_M, cSM_D, cSD_I, cSD_L, cSD_K, cSD_N, cSD_M, cSD_D, h9]; rfl) | (simp [cSI_I, cSI_L, cSI_K, cSI_N, cSI_M, cSI_D, cSL_I, cSL_L, cSL_K, cSL_N, cSL_M, cSL_D, cSK_I, cSK_L, cSK_K, cSK_N, cSK_M, cSK_D, cSM_I, cSM_L, cSM_K, cSM_N, cSM_M, cSM_D, cSD_I, cSD_L, cSD_K, cSD_N, cSD_M, cSD_D, h9]; funext b; simp [cSI_I, cSI_L, cSI_K, cSI_N, cSI_M, cSI_D, cSL_I, cSL_L, cSL_K, cSL_N, cSL_M, cSL_D, cSK_I, cSK_L, cSK_K, cSK_N, cSK_M, cSK_D, cSM_I, cSM_L, cSM_K, cSM_N, cSM_M, cSM_D, cSD_I, cSD_L, cSD_K, cSD_N, cSD_M, cSD_D, h9])
    | 17, _, _ => rfl
    | 18, _, _ => rfl
theorem RC.p16_7 (hR : RC E Pr τ ad fa h) {i : Nat} (hi : i < cN τ 3) (v : Int32) : RC E Pr (cSI τ 28 i v) ad fa (hset h (ad 16 i) (.inr (0, [.ref (ad 14 (cK τ 12 i)), .int (nI (cK τ 15 i)), .ref (ad 17 (cK τ 13 i)), .int (cI τ 24 i), .int (cI τ 25 i), .int (cI τ 26 i), .int (cI τ 27 i), .int v]))) := by
  refine hR.put (K := 16) (i := i) hi (fun t ht => rfl) ?_ (fun K' i' hl hne => ?_)
  · show _ = (.inr (0, [.ref (ad 14 (cK (cSI τ 28 i v) 12 i)), .int (nI (cK (cSI τ 28 i v) 15 i)), .ref (ad 17 (cK (cSI τ 28 i v) 13 i)), .int (cI (cSI τ 28 i v) 24 i), .int (cI (cSI τ 28 i v) 25 i), .int (cI (cSI τ 28 i v) 26 i), .int (cI (cSI τ 28 i v) 27 i), .int (cI (cSI τ 28 i v) 28 i)]) : va_E)
    first | (simp [cSI_I, cSI_L, cSI_K, cSI_N, cSI_M, cSI_D, cSL_I, cSL_L, cSL_K, cSL_N, cSL_M, cSL_D, cSK_I, cSK_L, cSK_K, cSK_N, cSK_M, cSK_D, cSM_I, cSM_L, cSM_K, cSM_N, cSM_M, cSM_D, cSD_I, cSD_L, cSD_K, cSD_N, cSD_M, cSD_D]; done) | (simp [cSI_I, cSI_L, cSI_K, cSI_N, cSI_M, cSI_D, cSL_I, cSL_L, cSL_K, cSL_N, cSL_M, cSL_D, cSK_I, cSK_L, cSK_K, cSK_N, cSK_M, cSK_D, cSM_I, cSM_L, cSM_K, cSM_N, cSM_M, cSM_D, cSD_I, cSD_L, cSD_K, cSD_N, cSD_M, cSD_D]; rfl)
  · match K', hl, hne with
    | 0, _, _ => rfl
    | 1, _, _ => rfl
    | 2, _, _ => rfl
    | 3, _, _ => rfl
    | 4, _, _ => rfl
    | 5, _, _ => rfl
    | 6, _, _ => rfl
    | 7, _, _ => rfl
    | 8, _, _ => rfl
    | 9, _, _ => rfl
    | 10, _, _ => rfl
    | 11, _, _ => rfl
    | 12, _, _ => rfl
    | 13, _, _ => rfl
    | 14, _, _ => rfl
    | 15, _, _ => rfl
    | 16, hl, hne =>
      have h9 : ¬ i' = i := fun z => hne ⟨rfl, z⟩
      show (.inr (0, [.ref (ad 14 (cK (cSI τ 28 i v) 12 i')), .int (nI (cK (cSI τ 28 i v) 15 i')), .ref (ad 17 (cK (cSI τ 28 i v) 13 i')), .int (cI (cSI τ 28 i v) 24 i'), .int (cI (cSI τ 28 i v) 25 i'), .int (cI (cSI τ 28 i v) 26 i'), .int (cI (cSI τ 28 i v) 27 i'), .int (cI (cSI τ 28 i v) 28 i')]) : va_E) = (.inr (0, [.ref (ad 14 (cK τ 12 i')), .int (nI (cK τ 15 i')), .ref (ad 17 (cK τ 13 i')), .int (cI τ 24 i'), .int (cI τ 25 i'), .int (cI τ 26 i'), .int (cI τ 27 i'), .int (cI τ 28 i')]) : va_E)
      first | (simp [cSI_I, cSI_L, cSI_K, cSI_N, cSI_M, cSI_D, cSL_I, cSL_L, cSL_K, cSL_N, cSL_M, cSL_D, cSK_I, cSK_L, cSK_K, cSK_N, cSK_M, cSK_D, cSM_I, cSM_L, cSM_K, cSM_N, cSM_M, cSM_D, cSD_I, cSD_L, cSD_K, cSD_N, cSD_M, cSD_D, h9]; done) | (simp [cSI_I, cSI_L, cSI_K, cSI_N, cSI_M, cSI_D, cSL_I, cSL_L, cSL_K, cSL_N, cSL_M, cSL_D, cSK_I, cSK_L, cSK_K, cSK_N, cSK_M, cSK_D, cSM_I, cSM_L, cSM_K, cSM_N, cSM_M, cSM_D, cSD_I, cSD_L, cSD_K, cSD_N, cSD_M, cSD_D, h9]; rfl) | (simp [cSI_I, cSI_L, cSI_K, cSI_N, cSI_M, cSI_D, cSL_I, cSL_L, cSL_K, cSL_N, cSL_M, cSL_D, cSK_I, cSK_L, cSK_K, cSK_N, cSK_M, cSK_D, cSM_I, cSM_L, cSM_K, cSM_N, cSM_M, cSM_D, cSD_I, cSD_L, cSD_K, cSD_N, cSD_M, cSD_D, h9]; funext b; simp [cSI_I, cSI_L, cSI_K, cSI_N, cSI_M, cSI_D, cSL_I, cSL_L, cSL_K, cSL_N, cSL_M, cSL_D, cSK_I, cSK_L, cSK_K, cSK_N, cSK_M, cSK_D, cSM_I, cSM_L, cSM_K, cSM_N, cSM_M, cSM_D, cSD_I, cSD_L, cSD_K, cSD_N, cSD_M, cSD_D, h9])
    | 17, _, _ => rfl
    | 18, _, _ => rfl
theorem RC.p17_2 (hR : RC E Pr τ ad fa h) {i : Nat} (hi : i < cN τ 4) (v : Int32) : RC E Pr (cSI τ 30 i v) ad fa (hset h (ad 17 i) (.inr (2, [.int (cI τ 29 i), .int (nI (cK τ 16 i)), .int v]))) := by
  refine hR.put (K := 17) (i := i) hi (fun t ht => rfl) ?_ (fun K' i' hl hne => ?_)
  · show _ = (.inr (2, [.int (cI (cSI τ 30 i v) 29 i), .int (nI (cK (cSI τ 30 i v) 16 i)), .int (cI (cSI τ 30 i v) 30 i)]) : va_E)
    first | (simp [cSI_I, cSI_L, cSI_K, cSI_N, cSI_M, cSI_D, cSL_I, cSL_L, cSL_K, cSL_N, cSL_M, cSL_D, cSK_I, cSK_L, cSK_K, cSK_N, cSK_M, cSK_D, cSM_I, cSM_L, cSM_K, cSM_N, cSM_M, cSM_D, cSD_I, cSD_L, cSD_K, cSD_N, cSD_M, cSD_D]; done) | (simp [cSI_I, cSI_L, cSI_K, cSI_N, cSI_M, cSI_D, cSL_I, cSL_L, cSL_K, cSL_N, cSL_M, cSL_D, cSK_I, cSK_L, cSK_K, cSK_N, cSK_M, cSK_D, cSM_I, cSM_L, cSM_K, cSM_N, cSM_M, cSM_D, cSD_I, cSD_L, cSD_K, cSD_N, cSD_M, cSD_D]; rfl)
  · match K', hl, hne with
    | 0, _, _ => rfl
    | 1, _, _ => rfl
    | 2, _, _ => rfl
    | 3, _, _ => rfl
    | 4, _, _ => rfl
    | 5, _, _ => rfl
    | 6, _, _ => rfl
    | 7, _, _ => rfl
    | 8, _, _ => rfl
    | 9, _, _ => rfl
    | 10, _, _ => rfl
    | 11, _, _ => rfl
    | 12, _, _ => rfl
    | 13, _, _ => rfl
    | 14, _, _ => rfl
    | 15, _, _ => rfl
    | 16, _, _ => rfl
    | 17, hl, hne =>
      have h9 : ¬ i' = i := fun z => hne ⟨rfl, z⟩
      show (.inr (2, [.int (cI (cSI τ 30 i v) 29 i'), .int (nI (cK (cSI τ 30 i v) 16 i')), .int (cI (cSI τ 30 i v) 30 i')]) : va_E) = (.inr (2, [.int (cI τ 29 i'), .int (nI (cK τ 16 i')), .int (cI τ 30 i')]) : va_E)
      first | (simp [cSI_I, cSI_L, cSI_K, cSI_N, cSI_M, cSI_D, cSL_I, cSL_L, cSL_K, cSL_N, cSL_M, cSL_D, cSK_I, cSK_L, cSK_K, cSK_N, cSK_M, cSK_D, cSM_I, cSM_L, cSM_K, cSM_N, cSM_M, cSM_D, cSD_I, cSD_L, cSD_K, cSD_N, cSD_M, cSD_D, h9]; done) | (simp [cSI_I, cSI_L, cSI_K, cSI_N, cSI_M, cSI_D, cSL_I, cSL_L, cSL_K, cSL_N, cSL_M, cSL_D, cSK_I, cSK_L, cSK_K, cSK_N, cSK_M, cSK_D, cSM_I, cSM_L, cSM_K, cSM_N, cSM_M, cSM_D, cSD_I, cSD_L, cSD_K, cSD_N, cSD_M, cSD_D, h9]; rfl) | (simp [cSI_I, cSI_L, cSI_K, cSI_N, cSI_M, cSI_D, cSL_I, cSL_L, cSL_K, cSL_N, cSL_M, cSL_D, cSK_I, cSK_L, cSK_K, cSK_N, cSK_M, cSK_D, cSM_I, cSM_L, cSM_K, cSM_N, cSM_M, cSM_D, cSD_I, cSD_L, cSD_K, cSD_N, cSD_M, cSD_D, h9]; funext b; simp [cSI_I, cSI_L, cSI_K, cSI_N, cSI_M, cSI_D, cSL_I, cSL_L, cSL_K, cSL_N, cSL_M, cSL_D, cSK_I, cSK_L, cSK_K, cSK_N, cSK_M, cSK_D, cSM_I, cSM_L, cSM_K, cSM_N, cSM_M, cSM_D, cSD_I, cSD_L, cSD_K, cSD_N, cSD_M, cSD_D, h9])
    | 18, _, _ => rfl
theorem RC.p18_0 (hR : RC E Pr τ ad fa h) {i : Nat} (hi : i < 20) (v : Int32) : RC E Pr (cSI τ 31 i v) ad fa (hset h (ad 18 i) (.inr (6, [.int v, .int (cI τ 32 i), .int (cI τ 33 i), .int (cI τ 34 i), .int (cI τ 35 i), .int (cI τ 36 i), .int (cI τ 37 i)]))) := by
  refine hR.put (K := 18) (i := i) hi (fun t ht => rfl) ?_ (fun K' i' hl hne => ?_)
  · show _ = (.inr (6, [.int (cI (cSI τ 31 i v) 31 i), .int (cI (cSI τ 31 i v) 32 i), .int (cI (cSI τ 31 i v) 33 i), .int (cI (cSI τ 31 i v) 34 i), .int (cI (cSI τ 31 i v) 35 i), .int (cI (cSI τ 31 i v) 36 i), .int (cI (cSI τ 31 i v) 37 i)]) : va_E)
    first | (simp [cSI_I, cSI_L, cSI_K, cSI_N, cSI_M, cSI_D, cSL_I, cSL_L, cSL_K, cSL_N, cSL_M, cSL_D, cSK_I, cSK_L, cSK_K, cSK_N, cSK_M, cSK_D, cSM_I, cSM_L, cSM_K, cSM_N, cSM_M, cSM_D, cSD_I, cSD_L, cSD_K, cSD_N, cSD_M, cSD_D]; done) | (simp [cSI_I, cSI_L, cSI_K, cSI_N, cSI_M, cSI_D, cSL_I, cSL_L, cSL_K, cSL_N, cSL_M, cSL_D, cSK_I, cSK_L, cSK_K, cSK_N, cSK_M, cSK_D, cSM_I, cSM_L, cSM_K, cSM_N, cSM_M, cSM_D, cSD_I, cSD_L, cSD_K, cSD_N, cSD_M, cSD_D]; rfl)
  · match K', hl, hne with
    | 0, _, _ => rfl
    | 1, _, _ => rfl
    | 2, _, _ => rfl
    | 3, _, _ => rfl
    | 4, _, _ => rfl
    | 5, _, _ => rfl
    | 6, _, _ => rfl
    | 7, _, _ => rfl
    | 8, _, _ => rfl
    | 9, _, _ => rfl
    | 10, _, _ => rfl
    | 11, _, _ => rfl
    | 12, _, _ => rfl
    | 13, _, _ => rfl
    | 14, _, _ => rfl
    | 15, _, _ => rfl
    | 16, _, _ => rfl
    | 17, _, _ => rfl
    | 18, hl, hne =>
      have h9 : ¬ i' = i := fun z => hne ⟨rfl, z⟩
      show (.inr (6, [.int (cI (cSI τ 31 i v) 31 i'), .int (cI (cSI τ 31 i v) 32 i'), .int (cI (cSI τ 31 i v) 33 i'), .int (cI (cSI τ 31 i v) 34 i'), .int (cI (cSI τ 31 i v) 35 i'), .int (cI (cSI τ 31 i v) 36 i'), .int (cI (cSI τ 31 i v) 37 i')]) : va_E) = (.inr (6, [.int (cI τ 31 i'), .int (cI τ 32 i'), .int (cI τ 33 i'), .int (cI τ 34 i'), .int (cI τ 35 i'), .int (cI τ 36 i'), .int (cI τ 37 i')]) : va_E)
      first | (simp [cSI_I, cSI_L, cSI_K, cSI_N, cSI_M, cSI_D, cSL_I, cSL_L, cSL_K, cSL_N, cSL_M, cSL_D, cSK_I, cSK_L, cSK_K, cSK_N, cSK_M, cSK_D, cSM_I, cSM_L, cSM_K, cSM_N, cSM_M, cSM_D, cSD_I, cSD_L, cSD_K, cSD_N, cSD_M, cSD_D, h9]; done) | (simp [cSI_I, cSI_L, cSI_K, cSI_N, cSI_M, cSI_D, cSL_I, cSL_L, cSL_K, cSL_N, cSL_M, cSL_D, cSK_I, cSK_L, cSK_K, cSK_N, cSK_M, cSK_D, cSM_I, cSM_L, cSM_K, cSM_N, cSM_M, cSM_D, cSD_I, cSD_L, cSD_K, cSD_N, cSD_M, cSD_D, h9]; rfl) | (simp [cSI_I, cSI_L, cSI_K, cSI_N, cSI_M, cSI_D, cSL_I, cSL_L, cSL_K, cSL_N, cSL_M, cSL_D, cSK_I, cSK_L, cSK_K, cSK_N, cSK_M, cSK_D, cSM_I, cSM_L, cSM_K, cSM_N, cSM_M, cSM_D, cSD_I, cSD_L, cSD_K, cSD_N, cSD_M, cSD_D, h9]; funext b; simp [cSI_I, cSI_L, cSI_K, cSI_N, cSI_M, cSI_D, cSL_I, cSL_L, cSL_K, cSL_N, cSL_M, cSL_D, cSK_I, cSK_L, cSK_K, cSK_N, cSK_M, cSK_D, cSM_I, cSM_L, cSM_K, cSM_N, cSM_M, cSM_D, cSD_I, cSD_L, cSD_K, cSD_N, cSD_M, cSD_D, h9])
theorem RC.p18_1 (hR : RC E Pr τ ad fa h) {i : Nat} (hi : i < 20) (v : Int32) : RC E Pr (cSI τ 32 i v) ad fa (hset h (ad 18 i) (.inr (6, [.int (cI τ 31 i), .int v, .int (cI τ 33 i), .int (cI τ 34 i), .int (cI τ 35 i), .int (cI τ 36 i), .int (cI τ 37 i)]))) := by
  refine hR.put (K := 18) (i := i) hi (fun t ht => rfl) ?_ (fun K' i' hl hne => ?_)
  · show _ = (.inr (6, [.int (cI (cSI τ 32 i v) 31 i), .int (cI (cSI τ 32 i v) 32 i), .int (cI (cSI τ 32 i v) 33 i), .int (cI (cSI τ 32 i v) 34 i), .int (cI (cSI τ 32 i v) 35 i), .int (cI (cSI τ 32 i v) 36 i), .int (cI (cSI τ 32 i v) 37 i)]) : va_E)
    first | (simp [cSI_I, cSI_L, cSI_K, cSI_N, cSI_M, cSI_D, cSL_I, cSL_L, cSL_K, cSL_N, cSL_M, cSL_D, cSK_I, cSK_L, cSK_K, cSK_N, cSK_M, cSK_D, cSM_I, cSM_L, cSM_K, cSM_N, cSM_M, cSM_D, cSD_I, cSD_L, cSD_K, cSD_N, cSD_M, cSD_D]; done) | (simp [cSI_I, cSI_L, cSI_K, cSI_N, cSI_M, cSI_D, cSL_I, cSL_L, cSL_K, cSL_N, cSL_M, cSL_D, cSK_I, cSK_L, cSK_K, cSK_N, cSK_M, cSK_D, cSM_I, cSM_L, cSM_K, cSM_N, cSM_M, cSM_D, cSD_I, cSD_L, cSD_K, cSD_N, cSD_M, cSD_D]; rfl)
  · match K', hl, hne with
    | 0, _, _ => rfl
    | 1, _, _ => rfl
    | 2, _, _ => rfl
    | 3, _, _ => rfl
    | 4, _, _ => rfl
    | 5, _, _ => rfl
    | 6, _, _ => rfl
    | 7, _, _ => rfl
    | 8, _, _ => rfl
    | 9, _, _ => rfl
    | 10, _, _ => rfl
    | 11, _, _ => rfl
    | 12, _, _ => rfl
    | 13, _, _ => rfl
    | 14, _, _ => rfl
    | 15, _, _ => rfl
    | 16, _, _ => rfl
    | 17, _, _ => rfl
    | 18, hl, hne =>
      have h9 : ¬ i' = i := fun z => hne ⟨rfl, z⟩
      show (.inr (6, [.int (cI (cSI τ 32 i v) 31 i'), .int (cI (cSI τ 32 i v) 32 i'), .int (cI (cSI τ 32 i v) 33 i'), .int (cI (cSI τ 32 i v) 34 i'), .int (cI (cSI τ 32 i v) 35 i'), .int (cI (cSI τ 32 i v) 36 i'), .int (cI (cSI τ 32 i v) 37 i')]) : va_E) = (.inr (6, [.int (cI τ 31 i'), .int (cI τ 32 i'), .int (cI τ 33 i'), .int (cI τ 34 i'), .int (cI τ 35 i'), .int (cI τ 36 i'), .int (cI τ 37 i')]) : va_E)
      first | (simp [cSI_I, cSI_L, cSI_K, cSI_N, cSI_M, cSI_D, cSL_I, cSL_L, cSL_K, cSL_N, cSL_M, cSL_D, cSK_I, cSK_L, cSK_K, cSK_N, cSK_M, cSK_D, cSM_I, cSM_L, cSM_K, cSM_N, cSM_M, cSM_D, cSD_I, cSD_L, cSD_K, cSD_N, cSD_M, cSD_D, h9]; done) | (simp [cSI_I, cSI_L, cSI_K, cSI_N, cSI_M, cSI_D, cSL_I, cSL_L, cSL_K, cSL_N, cSL_M, cSL_D, cSK_I, cSK_L, cSK_K, cSK_N, cSK_M, cSK_D, cSM_I, cSM_L, cSM_K, cSM_N, cSM_M, cSM_D, cSD_I, cSD_L, cSD_K, cSD_N, cSD_M, cSD_D, h9]; rfl) | (simp [cSI_I, cSI_L, cSI_K, cSI_N, cSI_M, cSI_D, cSL_I, cSL_L, cSL_K, cSL_N, cSL_M, cSL_D, cSK_I, cSK_L, cSK_K, cSK_N, cSK_M, cSK_D, cSM_I, cSM_L, cSM_K, cSM_N, cSM_M, cSM_D, cSD_I, cSD_L, cSD_K, cSD_N, cSD_M, cSD_D, h9]; funext b; simp [cSI_I, cSI_L, cSI_K, cSI_N, cSI_M, cSI_D, cSL_I, cSL_L, cSL_K, cSL_N, cSL_M, cSL_D, cSK_I, cSK_L, cSK_K, cSK_N, cSK_M, cSK_D, cSM_I, cSM_L, cSM_K, cSM_N, cSM_M, cSM_D, cSD_I, cSD_L, cSD_K, cSD_N, cSD_M, cSD_D, h9])
theorem RC.p18_2 (hR : RC E Pr τ ad fa h) {i : Nat} (hi : i < 20) (v : Int32) : RC E Pr (cSI τ 33 i v) ad fa (hset h (ad 18 i) (.inr (6, [.int (cI τ 31 i), .int (cI τ 32 i), .int v, .int (cI τ 34 i), .int (cI τ 35 i), .int (cI τ 36 i), .int (cI τ 37 i)]))) := by
  refine hR.put (K := 18) (i := i) hi (fun t ht => rfl) ?_ (fun K' i' hl hne => ?_)
  · show _ = (.inr (6, [.int (cI (cSI τ 33 i v) 31 i), .int (cI (cSI τ 33 i v) 32 i), .int (cI (cSI τ 33 i v) 33 i), .int (cI (cSI τ 33 i v) 34 i), .int (cI (cSI τ 33 i v) 35 i), .int (cI (cSI τ 33 i v) 36 i), .int (cI (cSI τ 33 i v) 37 i)]) : va_E)
    first | (simp [cSI_I, cSI_L, cSI_K, cSI_N, cSI_M, cSI_D, cSL_I, cSL_L, cSL_K, cSL_N, cSL_M, cSL_D, cSK_I, cSK_L, cSK_K, cSK_N, cSK_M, cSK_D, cSM_I, cSM_L, cSM_K, cSM_N, cSM_M, cSM_D, cSD_I, cSD_L, cSD_K, cSD_N, cSD_M, cSD_D]; done) | (simp [cSI_I, cSI_L, cSI_K, cSI_N, cSI_M, cSI_D, cSL_I, cSL_L, cSL_K, cSL_N, cSL_M, cSL_D, cSK_I, cSK_L, cSK_K, cSK_N, cSK_M, cSK_D, cSM_I, cSM_L, cSM_K, cSM_N, cSM_M, cSM_D, cSD_I, cSD_L, cSD_K, cSD_N, cSD_M, cSD_D]; rfl)
  · match K', hl, hne with
    | 0, _, _ => rfl
    | 1, _, _ => rfl
    | 2, _, _ => rfl
    | 3, _, _ => rfl
    | 4, _, _ => rfl
    | 5, _, _ => rfl
    | 6, _, _ => rfl
    | 7, _, _ => rfl
    | 8, _, _ => rfl
    | 9, _, _ => rfl
    | 10, _, _ => rfl
    | 11, _, _ => rfl
    | 12, _, _ => rfl
    | 13, _, _ => rfl
    | 14, _, _ => rfl
    | 15, _, _ => rfl
    | 16, _, _ => rfl
    | 17, _, _ => rfl
    | 18, hl, hne =>
      have h9 : ¬ i' = i := fun z => hne ⟨rfl, z⟩
      show (.inr (6, [.int (cI (cSI τ 33 i v) 31 i'), .int (cI (cSI τ 33 i v) 32 i'), .int (cI (cSI τ 33 i v) 33 i'), .int (cI (cSI τ 33 i v) 34 i'), .int (cI (cSI τ 33 i v) 35 i'), .int (cI (cSI τ 33 i v) 36 i'), .int (cI (cSI τ 33 i v) 37 i')]) : va_E) = (.inr (6, [.int (cI τ 31 i'), .int (cI τ 32 i'), .int (cI τ 33 i'), .int (cI τ 34 i'), .int (cI τ 35 i'), .int (cI τ 36 i'), .int (cI τ 37 i')]) : va_E)
      first | (simp [cSI_I, cSI_L, cSI_K, cSI_N, cSI_M, cSI_D, cSL_I, cSL_L, cSL_K, cSL_N, cSL_M, cSL_D, cSK_I, cSK_L, cSK_K, cSK_N, cSK_M, cSK_D, cSM_I, cSM_L, cSM_K, cSM_N, cSM_M, cSM_D, cSD_I, cSD_L, cSD_K, cSD_N, cSD_M, cSD_D, h9]; done) | (simp [cSI_I, cSI_L, cSI_K, cSI_N, cSI_M, cSI_D, cSL_I, cSL_L, cSL_K, cSL_N, cSL_M, cSL_D, cSK_I, cSK_L, cSK_K, cSK_N, cSK_M, cSK_D, cSM_I, cSM_L, cSM_K, cSM_N, cSM_M, cSM_D, cSD_I, cSD_L, cSD_K, cSD_N, cSD_M, cSD_D, h9]; rfl) | (simp [cSI_I, cSI_L, cSI_K, cSI_N, cSI_M, cSI_D, cSL_I, cSL_L, cSL_K, cSL_N, cSL_M, cSL_D, cSK_I, cSK_L, cSK_K, cSK_N, cSK_M, cSK_D, cSM_I, cSM_L, cSM_K, cSM_N, cSM_M, cSM_D, cSD_I, cSD_L, cSD_K, cSD_N, cSD_M, cSD_D, h9]; funext b; simp [cSI_I, cSI_L, cSI_K, cSI_N, cSI_M, cSI_D, cSL_I, cSL_L, cSL_K, cSL_N, cSL_M, cSL_D, cSK_I, cSK_L, cSK_K, cSK_N, cSK_M, cSK_D, cSM_I, cSM_L, cSM_K, cSM_N, cSM_M, cSM_D, cSD_I, cSD_L, cSD_K, cSD_N, cSD_M, cSD_D, h9])
theorem RC.p18_3 (hR : RC E Pr τ ad fa h) {i : Nat} (hi : i < 20) (v : Int32) : RC E Pr (cSI τ 34 i v) ad fa (hset h (ad 18 i) (.inr (6, [.int (cI τ 31 i), .int (cI τ 32 i), .int (cI τ 33 i), .int v, .int (cI τ 35 i), .int (cI τ 36 i), .int (cI τ 37 i)]))) := by
  refine hR.put (K := 18) (i := i) hi (fun t ht => rfl) ?_ (fun K' i' hl hne => ?_)
  · show _ = (.inr (6, [.int (cI (cSI τ 34 i v) 31 i), .int (cI (cSI τ 34 i v) 32 i), .int (cI (cSI τ 34 i v) 33 i), .int (cI (cSI τ 34 i v) 34 i), .int (cI (cSI τ 34 i v) 35 i), .int (cI (cSI τ 34 i v) 36 i), .int (cI (cSI τ 34 i v) 37 i)]) : va_E)
    first | (simp [cSI_I, cSI_L, cSI_K, cSI_N, cSI_M, cSI_D, cSL_I, cSL_L, cSL_K, cSL_N, cSL_M, cSL_D, cSK_I, cSK_L, cSK_K, cSK_N, cSK_M, cSK_D, cSM_I, cSM_L, cSM_K, cSM_N, cSM_M, cSM_D, cSD_I, cSD_L, cSD_K, cSD_N, cSD_M, cSD_D]; done) | (simp [cSI_I, cSI_L, cSI_K, cSI_N, cSI_M, cSI_D, cSL_I, cSL_L, cSL_K, cSL_N, cSL_M, cSL_D, cSK_I, cSK_L, cSK_K, cSK_N, cSK_M, cSK_D, cSM_I, cSM_L, cSM_K, cSM_N, cSM_M, cSM_D, cSD_I, cSD_L, cSD_K, cSD_N, cSD_M, cSD_D]; rfl)
  · match K', hl, hne with
    | 0, _, _ => rfl
    | 1, _, _ => rfl
    | 2, _, _ => rfl
    | 3, _, _ => rfl
    | 4, _, _ => rfl
    | 5, _, _ => rfl
    | 6, _, _ => rfl
    | 7, _, _ => rfl
    | 8, _, _ => rfl
    | 9, _, _ => rfl
    | 10, _, _ => rfl
    | 11, _, _ => rfl
    | 12, _, _ => rfl
    | 13, _, _ => rfl
    | 14, _, _ => rfl
    | 15, _, _ => rfl
    | 16, _, _ => rfl
    | 17, _, _ => rfl
    | 18, hl, hne =>
      have h9 : ¬ i' = i := fun z => hne ⟨rfl, z⟩
      show (.inr (6, [.int (cI (cSI τ 34 i v) 31 i'), .int (cI (cSI τ 34 i v) 32 i'), .int (cI (cSI τ 34 i v) 33 i'), .int (cI (cSI τ 34 i v) 34 i'), .int (cI (cSI τ 34 i v) 35 i'), .int (cI (cSI τ 34 i v) 36 i'), .int (cI (cSI τ 34 i v) 37 i')]) : va_E) = (.inr (6, [.int (cI τ 31 i'), .int (cI τ 32 i'), .int (cI τ 33 i'), .int (cI τ 34 i'), .int (cI τ 35 i'), .int (cI τ 36 i'), .int (cI τ 37 i')]) : va_E)
      first | (simp [cSI_I, cSI_L, cSI_K, cSI_N, cSI_M, cSI_D, cSL_I, cSL_L, cSL_K, cSL_N, cSL_M, cSL_D, cSK_I, cSK_L, cSK_K, cSK_N, cSK_M, cSK_D, cSM_I, cSM_L, cSM_K, cSM_N, cSM_M, cSM_D, cSD_I, cSD_L, cSD_K, cSD_N, cSD_M, cSD_D, h9]; done) | (simp [cSI_I, cSI_L, cSI_K, cSI_N, cSI_M, cSI_D, cSL_I, cSL_L, cSL_K, cSL_N, cSL_M, cSL_D, cSK_I, cSK_L, cSK_K, cSK_N, cSK_M, cSK_D, cSM_I, cSM_L, cSM_K, cSM_N, cSM_M, cSM_D, cSD_I, cSD_L, cSD_K, cSD_N, cSD_M, cSD_D, h9]; rfl) | (simp [cSI_I, cSI_L, cSI_K, cSI_N, cSI_M, cSI_D, cSL_I, cSL_L, cSL_K, cSL_N, cSL_M, cSL_D, cSK_I, cSK_L, cSK_K, cSK_N, cSK_M, cSK_D, cSM_I, cSM_L, cSM_K, cSM_N, cSM_M, cSM_D, cSD_I, cSD_L, cSD_K, cSD_N, cSD_M, cSD_D, h9]; funext b; simp [cSI_I, cSI_L, cSI_K, cSI_N, cSI_M, cSI_D, cSL_I, cSL_L, cSL_K, cSL_N, cSL_M, cSL_D, cSK_I, cSK_L, cSK_K, cSK_N, cSK_M, cSK_D, cSM_I, cSM_L, cSM_K, cSM_N, cSM_M, cSM_D, cSD_I, cSD_L, cSD_K, cSD_N, cSD_M, cSD_D, h9])
theorem RC.p18_4 (hR : RC E Pr τ ad fa h) {i : Nat} (hi : i < 20) (v : Int32) : RC E Pr (cSI τ 35 i v) ad fa (hset h (ad 18 i) (.inr (6, [.int (cI τ 31 i), .int (cI τ 32 i), .int (cI τ 33 i), .int (cI τ 34 i), .int v, .int (cI τ 36 i), .int (cI τ 37 i)]))) := by
  refine hR.put (K := 18) (i := i) hi (fun t ht => rfl) ?_ (fun K' i' hl hne => ?_)
  · show _ = (.inr (6, [.int (cI (cSI τ 35 i v) 31 i), .int (cI (cSI τ 35 i v) 32 i), .int (cI (cSI τ 35 i v) 33 i), .int (cI (cSI τ 35 i v) 34 i), .int (cI (cSI τ 35 i v) 35 i), .int (cI (cSI τ 35 i v) 36 i), .int (cI (cSI τ 35 i v) 37 i)]) : va_E)
    first | (simp [cSI_I, cSI_L, cSI_K, cSI_N, cSI_M, cSI_D, cSL_I, cSL_L, cSL_K, cSL_N, cSL_M, cSL_D, cSK_I, cSK_L, cSK_K, cSK_N, cSK_M, cSK_D, cSM_I, cSM_L, cSM_K, cSM_N, cSM_M, cSM_D, cSD_I, cSD_L, cSD_K, cSD_N, cSD_M, cSD_D]; done) | (simp [cSI_I, cSI_L, cSI_K, cSI_N, cSI_M, cSI_D, cSL_I, cSL_L, cSL_K, cSL_N, cSL_M, cSL_D, cSK_I, cSK_L, cSK_K, cSK_N, cSK_M, cSK_D, cSM_I, cSM_L, cSM_K, cSM_N, cSM_M, cSM_D, cSD_I, cSD_L, cSD_K, cSD_N, cSD_M, cSD_D]; rfl)
  · match K', hl, hne with
    | 0, _, _ => rfl
    | 1, _, _ => rfl
    | 2, _, _ => rfl
    | 3, _, _ => rfl
    | 4, _, _ => rfl
    | 5, _, _ => rfl
    | 6, _, _ => rfl
    | 7, _, _ => rfl
    | 8, _, _ => rfl
    | 9, _, _ => rfl
    | 10, _, _ => rfl
    | 11, _, _ => rfl
    | 12, _, _ => rfl
    | 13, _, _ => rfl
    | 14, _, _ => rfl
    | 15, _, _ => rfl
    | 16, _, _ => rfl
    | 17, _, _ => rfl
    | 18, hl, hne =>
      have h9 : ¬ i' = i := fun z => hne ⟨rfl, z⟩
      show (.inr (6, [.int (cI (cSI τ 35 i v) 31 i'), .int (cI (cSI τ 35 i v) 32 i'), .int (cI (cSI τ 35 i v) 33 i'), .int (cI (cSI τ 35 i v) 34 i'), .int (cI (cSI τ 35 i v) 35 i'), .int (cI (cSI τ 35 i v) 36 i'), .int (cI (cSI τ 35 i v) 37 i')]) : va_E) = (.inr (6, [.int (cI τ 31 i'), .int (cI τ 32 i'), .int (cI τ 33 i'), .int (cI τ 34 i'), .int (cI τ 35 i'), .int (cI τ 36 i'), .int (cI τ 37 i')]) : va_E)
      first | (simp [cSI_I, cSI_L, cSI_K, cSI_N, cSI_M, cSI_D, cSL_I, cSL_L, cSL_K, cSL_N, cSL_M, cSL_D, cSK_I, cSK_L, cSK_K, cSK_N, cSK_M, cSK_D, cSM_I, cSM_L, cSM_K, cSM_N, cSM_M, cSM_D, cSD_I, cSD_L, cSD_K, cSD_N, cSD_M, cSD_D, h9]; done) | (simp [cSI_I, cSI_L, cSI_K, cSI_N, cSI_M, cSI_D, cSL_I, cSL_L, cSL_K, cSL_N, cSL_M, cSL_D, cSK_I, cSK_L, cSK_K, cSK_N, cSK_M, cSK_D, cSM_I, cSM_L, cSM_K, cSM_N, cSM_M, cSM_D, cSD_I, cSD_L, cSD_K, cSD_N, cSD_M, cSD_D, h9]; rfl) | (simp [cSI_I, cSI_L, cSI_K, cSI_N, cSI_M, cSI_D, cSL_I, cSL_L, cSL_K, cSL_N, cSL_M, cSL_D, cSK_I, cSK_L, cSK_K, cSK_N, cSK_M, cSK_D, cSM_I, cSM_L, cSM_K, cSM_N, cSM_M, cSM_D, cSD_I, cSD_L, cSD_K, cSD_N, cSD_M, cSD_D, h9]; funext b; simp [cSI_I, cSI_L, cSI_K, cSI_N, cSI_M, cSI_D, cSL_I, cSL_L, cSL_K, cSL_N, cSL_M, cSL_D, cSK_I, cSK_L, cSK_K, cSK_N, cSK_M, cSK_D, cSM_I, cSM_L, cSM_K, cSM_N, cSM_M, cSM_D, cSD_I, cSD_L, cSD_K, cSD_N, cSD_M, cSD_D, h9])
theorem RC.p18_5 (hR : RC E Pr τ ad fa h) {i : Nat} (hi : i < 20) (v : Int32) : RC E Pr (cSI τ 36 i v) ad fa (hset h (ad 18 i) (.inr (6, [.int (cI τ 31 i), .int (cI τ 32 i), .int (cI τ 33 i), .int (cI τ 34 i), .int (cI τ 35 i), .int v, .int (cI τ 37 i)]))) := by
  refine hR.put (K := 18) (i := i) hi (fun t ht => rfl) ?_ (fun K' i' hl hne => ?_)
  · show _ = (.inr (6, [.int (cI (cSI τ 36 i v) 31 i), .int (cI (cSI τ 36 i v) 32 i), .int (cI (cSI τ 36 i v) 33 i), .int (cI (cSI τ 36 i v) 34 i), .int (cI (cSI τ 36 i v) 35 i), .int (cI (cSI τ 36 i v) 36 i), .int (cI (cSI τ 36 i v) 37 i)]) : va_E)
    first | (simp [cSI_I, cSI_L, cSI_K, cSI_N, cSI_M, cSI_D, cSL_I, cSL_L, cSL_K, cSL_N, cSL_M, cSL_D, cSK_I, cSK_L, cSK_K, cSK_N, cSK_M, cSK_D, cSM_I, cSM_L, cSM_K, cSM_N, cSM_M, cSM_D, cSD_I, cSD_L, cSD_K, cSD_N, cSD_M, cSD_D]; done) | (simp [cSI_I, cSI_L, cSI_K, cSI_N, cSI_M, cSI_D, cSL_I, cSL_L, cSL_K, cSL_N, cSL_M, cSL_D, cSK_I, cSK_L, cSK_K, cSK_N, cSK_M, cSK_D, cSM_I, cSM_L, cSM_K, cSM_N, cSM_M, cSM_D, cSD_I, cSD_L, cSD_K, cSD_N, cSD_M, cSD_D]; rfl)
  · match K', hl, hne with
    | 0, _, _ => rfl
    | 1, _, _ => rfl
    | 2, _, _ => rfl
    | 3, _, _ => rfl
    | 4, _, _ => rfl
    | 5, _, _ => rfl
    | 6, _, _ => rfl
    | 7, _, _ => rfl
    | 8, _, _ => rfl
    | 9, _, _ => rfl
    | 10, _, _ => rfl
    | 11, _, _ => rfl
    | 12, _, _ => rfl
    | 13, _, _ => rfl
    | 14, _, _ => rfl
    | 15, _, _ => rfl
    | 16, _, _ => rfl
    | 17, _, _ => rfl
    | 18, hl, hne =>
      have h9 : ¬ i' = i := fun z => hne ⟨rfl, z⟩
      show (.inr (6, [.int (cI (cSI τ 36 i v) 31 i'), .int (cI (cSI τ 36 i v) 32 i'), .int (cI (cSI τ 36 i v) 33 i'), .int (cI (cSI τ 36 i v) 34 i'), .int (cI (cSI τ 36 i v) 35 i'), .int (cI (cSI τ 36 i v) 36 i'), .int (cI (cSI τ 36 i v) 37 i')]) : va_E) = (.inr (6, [.int (cI τ 31 i'), .int (cI τ 32 i'), .int (cI τ 33 i'), .int (cI τ 34 i'), .int (cI τ 35 i'), .int (cI τ 36 i'), .int (cI τ 37 i')]) : va_E)
      first | (simp [cSI_I, cSI_L, cSI_K, cSI_N, cSI_M, cSI_D, cSL_I, cSL_L, cSL_K, cSL_N, cSL_M, cSL_D, cSK_I, cSK_L, cSK_K, cSK_N, cSK_M, cSK_D, cSM_I, cSM_L, cSM_K, cSM_N, cSM_M, cSM_D, cSD_I, cSD_L, cSD_K, cSD_N, cSD_M, cSD_D, h9]; done) | (simp [cSI_I, cSI_L, cSI_K, cSI_N, cSI_M, cSI_D, cSL_I, cSL_L, cSL_K, cSL_N, cSL_M, cSL_D, cSK_I, cSK_L, cSK_K, cSK_N, cSK_M, cSK_D, cSM_I, cSM_L, cSM_K, cSM_N, cSM_M, cSM_D, cSD_I, cSD_L, cSD_K, cSD_N, cSD_M, cSD_D, h9]; rfl) | (simp [cSI_I, cSI_L, cSI_K, cSI_N, cSI_M, cSI_D, cSL_I, cSL_L, cSL_K, cSL_N, cSL_M, cSL_D, cSK_I, cSK_L, cSK_K, cSK_N, cSK_M, cSK_D, cSM_I, cSM_L, cSM_K, cSM_N, cSM_M, cSM_D, cSD_I, cSD_L, cSD_K, cSD_N, cSD_M, cSD_D, h9]; funext b; simp [cSI_I, cSI_L, cSI_K, cSI_N, cSI_M, cSI_D, cSL_I, cSL_L, cSL_K, cSL_N, cSL_M, cSL_D, cSK_I, cSK_L, cSK_K, cSK_N, cSK_M, cSK_D, cSM_I, cSM_L, cSM_K, cSM_N, cSM_M, cSM_D, cSD_I, cSD_L, cSD_K, cSD_N, cSD_M, cSD_D, h9])
theorem RC.p18_6 (hR : RC E Pr τ ad fa h) {i : Nat} (hi : i < 20) (v : Int32) : RC E Pr (cSI τ 37 i v) ad fa (hset h (ad 18 i) (.inr (6, [.int (cI τ 31 i), .int (cI τ 32 i), .int (cI τ 33 i), .int (cI τ 34 i), .int (cI τ 35 i), .int (cI τ 36 i), .int v]))) := by
  refine hR.put (K := 18) (i := i) hi (fun t ht => rfl) ?_ (fun K' i' hl hne => ?_)
  · show _ = (.inr (6, [.int (cI (cSI τ 37 i v) 31 i), .int (cI (cSI τ 37 i v) 32 i), .int (cI (cSI τ 37 i v) 33 i), .int (cI (cSI τ 37 i v) 34 i), .int (cI (cSI τ 37 i v) 35 i), .int (cI (cSI τ 37 i v) 36 i), .int (cI (cSI τ 37 i v) 37 i)]) : va_E)
    first | (simp [cSI_I, cSI_L, cSI_K, cSI_N, cSI_M, cSI_D, cSL_I, cSL_L, cSL_K, cSL_N, cSL_M, cSL_D, cSK_I, cSK_L, cSK_K, cSK_N, cSK_M, cSK_D, cSM_I, cSM_L, cSM_K, cSM_N, cSM_M, cSM_D, cSD_I, cSD_L, cSD_K, cSD_N, cSD_M, cSD_D]; done) | (simp [cSI_I, cSI_L, cSI_K, cSI_N, cSI_M, cSI_D, cSL_I, cSL_L, cSL_K, cSL_N, cSL_M, cSL_D, cSK_I, cSK_L, cSK_K, cSK_N, cSK_M, cSK_D, cSM_I, cSM_L, cSM_K, cSM_N, cSM_M, cSM_D, cSD_I, cSD_L, cSD_K, cSD_N, cSD_M, cSD_D]; rfl)
  · match K', hl, hne with
    | 0, _, _ => rfl
    | 1, _, _ => rfl
    | 2, _, _ => rfl
    | 3, _, _ => rfl
    | 4, _, _ => rfl
    | 5, _, _ => rfl
    | 6, _, _ => rfl
    | 7, _, _ => rfl
    | 8, _, _ => rfl
    | 9, _, _ => rfl
    | 10, _, _ => rfl
    | 11, _, _ => rfl
    | 12, _, _ => rfl
    | 13, _, _ => rfl
    | 14, _, _ => rfl
    | 15, _, _ => rfl
    | 16, _, _ => rfl
    | 17, _, _ => rfl
    | 18, hl, hne =>
      have h9 : ¬ i' = i := fun z => hne ⟨rfl, z⟩
      show (.inr (6, [.int (cI (cSI τ 37 i v) 31 i'), .int (cI (cSI τ 37 i v) 32 i'), .int (cI (cSI τ 37 i v) 33 i'), .int (cI (cSI τ 37 i v) 34 i'), .int (cI (cSI τ 37 i v) 35 i'), .int (cI (cSI τ 37 i v) 36 i'), .int (cI (cSI τ 37 i v) 37 i')]) : va_E) = (.inr (6, [.int (cI τ 31 i'), .int (cI τ 32 i'), .int (cI τ 33 i'), .int (cI τ 34 i'), .int (cI τ 35 i'), .int (cI τ 36 i'), .int (cI τ 37 i')]) : va_E)
      first | (simp [cSI_I, cSI_L, cSI_K, cSI_N, cSI_M, cSI_D, cSL_I, cSL_L, cSL_K, cSL_N, cSL_M, cSL_D, cSK_I, cSK_L, cSK_K, cSK_N, cSK_M, cSK_D, cSM_I, cSM_L, cSM_K, cSM_N, cSM_M, cSM_D, cSD_I, cSD_L, cSD_K, cSD_N, cSD_M, cSD_D, h9]; done) | (simp [cSI_I, cSI_L, cSI_K, cSI_N, cSI_M, cSI_D, cSL_I, cSL_L, cSL_K, cSL_N, cSL_M, cSL_D, cSK_I, cSK_L, cSK_K, cSK_N, cSK_M, cSK_D, cSM_I, cSM_L, cSM_K, cSM_N, cSM_M, cSM_D, cSD_I, cSD_L, cSD_K, cSD_N, cSD_M, cSD_D, h9]; rfl) | (simp [cSI_I, cSI_L, cSI_K, cSI_N, cSI_M, cSI_D, cSL_I, cSL_L, cSL_K, cSL_N, cSL_M, cSL_D, cSK_I, cSK_L, cSK_K, cSK_N, cSK_M, cSK_D, cSM_I, cSM_L, cSM_K, cSM_N, cSM_M, cSM_D, cSD_I, cSD_L, cSD_K, cSD_N, cSD_M, cSD_D, h9]; funext b; simp [cSI_I, cSI_L, cSI_K, cSI_N, cSI_M, cSI_D, cSL_I, cSL_L, cSL_K, cSL_N, cSL_M, cSL_D, cSK_I, cSK_L, cSK_K, cSK_N, cSK_M, cSK_D, cSM_I, cSM_L, cSM_K, cSM_N, cSM_M, cSM_D, cSD_I, cSD_L, cSD_K, cSD_N, cSD_M, cSD_D, h9])
theorem RC.p15_2 (hR : RC E Pr τ ad fa h) {i : Nat} (hi : i < cN τ 2) (v : Int32) : RC E Pr (cSI τ 23 i v) ad fa (hset h (ad 15 i) (.inr (1, [.ref (ad 14 (cK τ 11 i)), .int (cI τ 22 i), .int v]))) := by
  refine hR.put (K := 15) (i := i) hi (fun t ht => rfl) ?_ (fun K' i' hl hne => ?_)
  · show _ = (.inr (1, [.ref (ad 14 (cK (cSI τ 23 i v) 11 i)), .int (cI (cSI τ 23 i v) 22 i), .int (cI (cSI τ 23 i v) 23 i)]) : va_E)
    first | (simp [cSI_I, cSI_L, cSI_K, cSI_N, cSI_M, cSI_D, cSL_I, cSL_L, cSL_K, cSL_N, cSL_M, cSL_D, cSK_I, cSK_L, cSK_K, cSK_N, cSK_M, cSK_D, cSM_I, cSM_L, cSM_K, cSM_N, cSM_M, cSM_D, cSD_I, cSD_L, cSD_K, cSD_N, cSD_M, cSD_D]; done) | (simp [cSI_I, cSI_L, cSI_K, cSI_N, cSI_M, cSI_D, cSL_I, cSL_L, cSL_K, cSL_N, cSL_M, cSL_D, cSK_I, cSK_L, cSK_K, cSK_N, cSK_M, cSK_D, cSM_I, cSM_L, cSM_K, cSM_N, cSM_M, cSM_D, cSD_I, cSD_L, cSD_K, cSD_N, cSD_M, cSD_D]; rfl)
  · match K', hl, hne with
    | 0, _, _ => rfl
    | 1, _, _ => rfl
    | 2, _, _ => rfl
    | 3, _, _ => rfl
    | 4, _, _ => rfl
    | 5, _, _ => rfl
    | 6, _, _ => rfl
    | 7, _, _ => rfl
    | 8, _, _ => rfl
    | 9, _, _ => rfl
    | 10, _, _ => rfl
    | 11, _, _ => rfl
    | 12, _, _ => rfl
    | 13, _, _ => rfl
    | 14, _, _ => rfl
    | 15, hl, hne =>
      have h9 : ¬ i' = i := fun z => hne ⟨rfl, z⟩
      show (.inr (1, [.ref (ad 14 (cK (cSI τ 23 i v) 11 i')), .int (cI (cSI τ 23 i v) 22 i'), .int (cI (cSI τ 23 i v) 23 i')]) : va_E) = (.inr (1, [.ref (ad 14 (cK τ 11 i')), .int (cI τ 22 i'), .int (cI τ 23 i')]) : va_E)
      first | (simp [cSI_I, cSI_L, cSI_K, cSI_N, cSI_M, cSI_D, cSL_I, cSL_L, cSL_K, cSL_N, cSL_M, cSL_D, cSK_I, cSK_L, cSK_K, cSK_N, cSK_M, cSK_D, cSM_I, cSM_L, cSM_K, cSM_N, cSM_M, cSM_D, cSD_I, cSD_L, cSD_K, cSD_N, cSD_M, cSD_D, h9]; done) | (simp [cSI_I, cSI_L, cSI_K, cSI_N, cSI_M, cSI_D, cSL_I, cSL_L, cSL_K, cSL_N, cSL_M, cSL_D, cSK_I, cSK_L, cSK_K, cSK_N, cSK_M, cSK_D, cSM_I, cSM_L, cSM_K, cSM_N, cSM_M, cSM_D, cSD_I, cSD_L, cSD_K, cSD_N, cSD_M, cSD_D, h9]; rfl) | (simp [cSI_I, cSI_L, cSI_K, cSI_N, cSI_M, cSI_D, cSL_I, cSL_L, cSL_K, cSL_N, cSL_M, cSL_D, cSK_I, cSK_L, cSK_K, cSK_N, cSK_M, cSK_D, cSM_I, cSM_L, cSM_K, cSM_N, cSM_M, cSM_D, cSD_I, cSD_L, cSD_K, cSD_N, cSD_M, cSD_D, h9]; funext b; simp [cSI_I, cSI_L, cSI_K, cSI_N, cSI_M, cSI_D, cSL_I, cSL_L, cSL_K, cSL_N, cSL_M, cSL_D, cSK_I, cSK_L, cSK_K, cSK_N, cSK_M, cSK_D, cSM_I, cSM_L, cSM_K, cSM_N, cSM_M, cSM_D, cSD_I, cSD_L, cSD_K, cSD_N, cSD_M, cSD_D, h9])
    | 16, _, _ => rfl
    | 17, _, _ => rfl
    | 18, _, _ => rfl
theorem RC.p10_3 (hR : RC E Pr τ ad fa h) {i : Nat} (hi : i < cN τ 0) (v : Int64) : RC E Pr (cSL τ 20 i v) ad fa (hset h (ad 10 i) (.inr (3, [.ref (ad 11 i), .ref (ad 12 i), .ref (ad 13 i), .long v, .int (cI τ 20 i)]))) := by
  refine hR.put (K := 10) (i := i) hi (fun t ht => rfl) ?_ (fun K' i' hl hne => ?_)
  · show _ = (.inr (3, [.ref (ad 11 i), .ref (ad 12 i), .ref (ad 13 i), .long (cL (cSL τ 20 i v) 20 i), .int (cI (cSL τ 20 i v) 20 i)]) : va_E)
    first | (simp [cSI_I, cSI_L, cSI_K, cSI_N, cSI_M, cSI_D, cSL_I, cSL_L, cSL_K, cSL_N, cSL_M, cSL_D, cSK_I, cSK_L, cSK_K, cSK_N, cSK_M, cSK_D, cSM_I, cSM_L, cSM_K, cSM_N, cSM_M, cSM_D, cSD_I, cSD_L, cSD_K, cSD_N, cSD_M, cSD_D]; done) | (simp [cSI_I, cSI_L, cSI_K, cSI_N, cSI_M, cSI_D, cSL_I, cSL_L, cSL_K, cSL_N, cSL_M, cSL_D, cSK_I, cSK_L, cSK_K, cSK_N, cSK_M, cSK_D, cSM_I, cSM_L, cSM_K, cSM_N, cSM_M, cSM_D, cSD_I, cSD_L, cSD_K, cSD_N, cSD_M, cSD_D]; rfl)
  · match K', hl, hne with
    | 0, _, _ => rfl
    | 1, _, _ => rfl
    | 2, _, _ => rfl
    | 3, _, _ => rfl
    | 4, _, _ => rfl
    | 5, _, _ => rfl
    | 6, _, _ => rfl
    | 7, _, _ => rfl
    | 8, _, _ => rfl
    | 9, _, _ => rfl
    | 10, hl, hne =>
      have h9 : ¬ i' = i := fun z => hne ⟨rfl, z⟩
      show (.inr (3, [.ref (ad 11 i'), .ref (ad 12 i'), .ref (ad 13 i'), .long (cL (cSL τ 20 i v) 20 i'), .int (cI (cSL τ 20 i v) 20 i')]) : va_E) = (.inr (3, [.ref (ad 11 i'), .ref (ad 12 i'), .ref (ad 13 i'), .long (cL τ 20 i'), .int (cI τ 20 i')]) : va_E)
      first | (simp [cSI_I, cSI_L, cSI_K, cSI_N, cSI_M, cSI_D, cSL_I, cSL_L, cSL_K, cSL_N, cSL_M, cSL_D, cSK_I, cSK_L, cSK_K, cSK_N, cSK_M, cSK_D, cSM_I, cSM_L, cSM_K, cSM_N, cSM_M, cSM_D, cSD_I, cSD_L, cSD_K, cSD_N, cSD_M, cSD_D, h9]; done) | (simp [cSI_I, cSI_L, cSI_K, cSI_N, cSI_M, cSI_D, cSL_I, cSL_L, cSL_K, cSL_N, cSL_M, cSL_D, cSK_I, cSK_L, cSK_K, cSK_N, cSK_M, cSK_D, cSM_I, cSM_L, cSM_K, cSM_N, cSM_M, cSM_D, cSD_I, cSD_L, cSD_K, cSD_N, cSD_M, cSD_D, h9]; rfl) | (simp [cSI_I, cSI_L, cSI_K, cSI_N, cSI_M, cSI_D, cSL_I, cSL_L, cSL_K, cSL_N, cSL_M, cSL_D, cSK_I, cSK_L, cSK_K, cSK_N, cSK_M, cSK_D, cSM_I, cSM_L, cSM_K, cSM_N, cSM_M, cSM_D, cSD_I, cSD_L, cSD_K, cSD_N, cSD_M, cSD_D, h9]; funext b; simp [cSI_I, cSI_L, cSI_K, cSI_N, cSI_M, cSI_D, cSL_I, cSL_L, cSL_K, cSL_N, cSL_M, cSL_D, cSK_I, cSK_L, cSK_K, cSK_N, cSK_M, cSK_D, cSM_I, cSM_L, cSM_K, cSM_N, cSM_M, cSM_D, cSD_I, cSD_L, cSD_K, cSD_N, cSD_M, cSD_D, h9])
    | 11, _, _ => rfl
    | 12, _, _ => rfl
    | 13, _, _ => rfl
    | 14, _, _ => rfl
    | 15, _, _ => rfl
    | 16, _, _ => rfl
    | 17, _, _ => rfl
    | 18, _, _ => rfl
theorem RC.p10_4 (hR : RC E Pr τ ad fa h) {i : Nat} (hi : i < cN τ 0) (v : Int32) : RC E Pr (cSI τ 20 i v) ad fa (hset h (ad 10 i) (.inr (3, [.ref (ad 11 i), .ref (ad 12 i), .ref (ad 13 i), .long (cL τ 20 i), .int v]))) := by
  refine hR.put (K := 10) (i := i) hi (fun t ht => rfl) ?_ (fun K' i' hl hne => ?_)
  · show _ = (.inr (3, [.ref (ad 11 i), .ref (ad 12 i), .ref (ad 13 i), .long (cL (cSI τ 20 i v) 20 i), .int (cI (cSI τ 20 i v) 20 i)]) : va_E)
    first | (simp [cSI_I, cSI_L, cSI_K, cSI_N, cSI_M, cSI_D, cSL_I, cSL_L, cSL_K, cSL_N, cSL_M, cSL_D, cSK_I, cSK_L, cSK_K, cSK_N, cSK_M, cSK_D, cSM_I, cSM_L, cSM_K, cSM_N, cSM_M, cSM_D, cSD_I, cSD_L, cSD_K, cSD_N, cSD_M, cSD_D]; done) | (simp [cSI_I, cSI_L, cSI_K, cSI_N, cSI_M, cSI_D, cSL_I, cSL_L, cSL_K, cSL_N, cSL_M, cSL_D, cSK_I, cSK_L, cSK_K, cSK_N, cSK_M, cSK_D, cSM_I, cSM_L, cSM_K, cSM_N, cSM_M, cSM_D, cSD_I, cSD_L, cSD_K, cSD_N, cSD_M, cSD_D]; rfl)
  · match K', hl, hne with
    | 0, _, _ => rfl
    | 1, _, _ => rfl
    | 2, _, _ => rfl
    | 3, _, _ => rfl
    | 4, _, _ => rfl
    | 5, _, _ => rfl
    | 6, _, _ => rfl
    | 7, _, _ => rfl
    | 8, _, _ => rfl
    | 9, _, _ => rfl
    | 10, hl, hne =>
      have h9 : ¬ i' = i := fun z => hne ⟨rfl, z⟩
      show (.inr (3, [.ref (ad 11 i'), .ref (ad 12 i'), .ref (ad 13 i'), .long (cL (cSI τ 20 i v) 20 i'), .int (cI (cSI τ 20 i v) 20 i')]) : va_E) = (.inr (3, [.ref (ad 11 i'), .ref (ad 12 i'), .ref (ad 13 i'), .long (cL τ 20 i'), .int (cI τ 20 i')]) : va_E)
      first | (simp [cSI_I, cSI_L, cSI_K, cSI_N, cSI_M, cSI_D, cSL_I, cSL_L, cSL_K, cSL_N, cSL_M, cSL_D, cSK_I, cSK_L, cSK_K, cSK_N, cSK_M, cSK_D, cSM_I, cSM_L, cSM_K, cSM_N, cSM_M, cSM_D, cSD_I, cSD_L, cSD_K, cSD_N, cSD_M, cSD_D, h9]; done) | (simp [cSI_I, cSI_L, cSI_K, cSI_N, cSI_M, cSI_D, cSL_I, cSL_L, cSL_K, cSL_N, cSL_M, cSL_D, cSK_I, cSK_L, cSK_K, cSK_N, cSK_M, cSK_D, cSM_I, cSM_L, cSM_K, cSM_N, cSM_M, cSM_D, cSD_I, cSD_L, cSD_K, cSD_N, cSD_M, cSD_D, h9]; rfl) | (simp [cSI_I, cSI_L, cSI_K, cSI_N, cSI_M, cSI_D, cSL_I, cSL_L, cSL_K, cSL_N, cSL_M, cSL_D, cSK_I, cSK_L, cSK_K, cSK_N, cSK_M, cSK_D, cSM_I, cSM_L, cSM_K, cSM_N, cSM_M, cSM_D, cSD_I, cSD_L, cSD_K, cSD_N, cSD_M, cSD_D, h9]; funext b; simp [cSI_I, cSI_L, cSI_K, cSI_N, cSI_M, cSI_D, cSL_I, cSL_L, cSL_K, cSL_N, cSL_M, cSL_D, cSK_I, cSK_L, cSK_K, cSK_N, cSK_M, cSK_D, cSM_I, cSM_L, cSM_K, cSM_N, cSM_M, cSM_D, cSD_I, cSD_L, cSD_K, cSD_N, cSD_M, cSD_D, h9])
    | 11, _, _ => rfl
    | 12, _, _ => rfl
    | 13, _, _ => rfl
    | 14, _, _ => rfl
    | 15, _, _ => rfl
    | 16, _, _ => rfl
    | 17, _, _ => rfl
    | 18, _, _ => rfl
theorem RC.p14_3 (hR : RC E Pr τ ad fa h) {i : Nat} (hi : i < cN τ 1) (v : Int64) : RC E Pr (cSL τ 21 i v) ad fa (hset h (ad 14 i) (.inr (5, [.ref (ad 10 (cK τ 10 i)), .int (cI τ 21 i), va_rf (if cK τ 14 i = 0 then none else some (ad 15 (cK τ 14 i - 1))), .long v]))) := by
  refine hR.put (K := 14) (i := i) hi (fun t ht => rfl) ?_ (fun K' i' hl hne => ?_)
  · show _ = (.inr (5, [.ref (ad 10 (cK (cSL τ 21 i v) 10 i)), .int (cI (cSL τ 21 i v) 21 i), va_rf (if cK (cSL τ 21 i v) 14 i = 0 then none else some (ad 15 (cK (cSL τ 21 i v) 14 i - 1))), .long (cL (cSL τ 21 i v) 21 i)]) : va_E)
    first | (simp [cSI_I, cSI_L, cSI_K, cSI_N, cSI_M, cSI_D, cSL_I, cSL_L, cSL_K, cSL_N, cSL_M, cSL_D, cSK_I, cSK_L, cSK_K, cSK_N, cSK_M, cSK_D, cSM_I, cSM_L, cSM_K, cSM_N, cSM_M, cSM_D, cSD_I, cSD_L, cSD_K, cSD_N, cSD_M, cSD_D]; done) | (simp [cSI_I, cSI_L, cSI_K, cSI_N, cSI_M, cSI_D, cSL_I, cSL_L, cSL_K, cSL_N, cSL_M, cSL_D, cSK_I, cSK_L, cSK_K, cSK_N, cSK_M, cSK_D, cSM_I, cSM_L, cSM_K, cSM_N, cSM_M, cSM_D, cSD_I, cSD_L, cSD_K, cSD_N, cSD_M, cSD_D]; rfl)
  · match K', hl, hne with
    | 0, _, _ => rfl
    | 1, _, _ => rfl
    | 2, _, _ => rfl
    | 3, _, _ => rfl
    | 4, _, _ => rfl
    | 5, _, _ => rfl
    | 6, _, _ => rfl
    | 7, _, _ => rfl
    | 8, _, _ => rfl
    | 9, _, _ => rfl
    | 10, _, _ => rfl
    | 11, _, _ => rfl
    | 12, _, _ => rfl
    | 13, _, _ => rfl
    | 14, hl, hne =>
      have h9 : ¬ i' = i := fun z => hne ⟨rfl, z⟩
      show (.inr (5, [.ref (ad 10 (cK (cSL τ 21 i v) 10 i')), .int (cI (cSL τ 21 i v) 21 i'), va_rf (if cK (cSL τ 21 i v) 14 i' = 0 then none else some (ad 15 (cK (cSL τ 21 i v) 14 i' - 1))), .long (cL (cSL τ 21 i v) 21 i')]) : va_E) = (.inr (5, [.ref (ad 10 (cK τ 10 i')), .int (cI τ 21 i'), va_rf (if cK τ 14 i' = 0 then none else some (ad 15 (cK τ 14 i' - 1))), .long (cL τ 21 i')]) : va_E)
      first | (simp [cSI_I, cSI_L, cSI_K, cSI_N, cSI_M, cSI_D, cSL_I, cSL_L, cSL_K, cSL_N, cSL_M, cSL_D, cSK_I, cSK_L, cSK_K, cSK_N, cSK_M, cSK_D, cSM_I, cSM_L, cSM_K, cSM_N, cSM_M, cSM_D, cSD_I, cSD_L, cSD_K, cSD_N, cSD_M, cSD_D, h9]; done) | (simp [cSI_I, cSI_L, cSI_K, cSI_N, cSI_M, cSI_D, cSL_I, cSL_L, cSL_K, cSL_N, cSL_M, cSL_D, cSK_I, cSK_L, cSK_K, cSK_N, cSK_M, cSK_D, cSM_I, cSM_L, cSM_K, cSM_N, cSM_M, cSM_D, cSD_I, cSD_L, cSD_K, cSD_N, cSD_M, cSD_D, h9]; rfl) | (simp [cSI_I, cSI_L, cSI_K, cSI_N, cSI_M, cSI_D, cSL_I, cSL_L, cSL_K, cSL_N, cSL_M, cSL_D, cSK_I, cSK_L, cSK_K, cSK_N, cSK_M, cSK_D, cSM_I, cSM_L, cSM_K, cSM_N, cSM_M, cSM_D, cSD_I, cSD_L, cSD_K, cSD_N, cSD_M, cSD_D, h9]; funext b; simp [cSI_I, cSI_L, cSI_K, cSI_N, cSI_M, cSI_D, cSL_I, cSL_L, cSL_K, cSL_N, cSL_M, cSL_D, cSK_I, cSK_L, cSK_K, cSK_N, cSK_M, cSK_D, cSM_I, cSM_L, cSM_K, cSM_N, cSM_M, cSM_D, cSD_I, cSD_L, cSD_K, cSD_N, cSD_M, cSD_D, h9])
    | 15, _, _ => rfl
    | 16, _, _ => rfl
    | 17, _, _ => rfl
    | 18, _, _ => rfl
theorem RC.p14_2 (hR : RC E Pr τ ad fa h) {i : Nat} (hi : i < cN τ 1) (v : Nat) : RC E Pr (cSK τ 14 i v) ad fa (hset h (ad 14 i) (.inr (5, [.ref (ad 10 (cK τ 10 i)), .int (cI τ 21 i), va_rf (if v = 0 then none else some (ad 15 (v - 1))), .long (cL τ 21 i)]))) := by
  refine hR.put (K := 14) (i := i) hi (fun t ht => (by rw [cSK_N, if_neg (by omega)])) ?_ (fun K' i' hl hne => ?_)
  · show _ = (.inr (5, [.ref (ad 10 (cK (cSK τ 14 i v) 10 i)), .int (cI (cSK τ 14 i v) 21 i), va_rf (if cK (cSK τ 14 i v) 14 i = 0 then none else some (ad 15 (cK (cSK τ 14 i v) 14 i - 1))), .long (cL (cSK τ 14 i v) 21 i)]) : va_E)
    first | (simp [cSI_I, cSI_L, cSI_K, cSI_N, cSI_M, cSI_D, cSL_I, cSL_L, cSL_K, cSL_N, cSL_M, cSL_D, cSK_I, cSK_L, cSK_K, cSK_N, cSK_M, cSK_D, cSM_I, cSM_L, cSM_K, cSM_N, cSM_M, cSM_D, cSD_I, cSD_L, cSD_K, cSD_N, cSD_M, cSD_D]; done) | (simp [cSI_I, cSI_L, cSI_K, cSI_N, cSI_M, cSI_D, cSL_I, cSL_L, cSL_K, cSL_N, cSL_M, cSL_D, cSK_I, cSK_L, cSK_K, cSK_N, cSK_M, cSK_D, cSM_I, cSM_L, cSM_K, cSM_N, cSM_M, cSM_D, cSD_I, cSD_L, cSD_K, cSD_N, cSD_M, cSD_D]; rfl)
  · match K', hl, hne with
    | 0, _, _ => rfl
    | 1, _, _ => rfl
    | 2, _, _ => rfl
    | 3, _, _ => rfl
    | 4, _, _ => rfl
    | 5, _, _ => rfl
    | 6, _, _ => rfl
    | 7, _, _ => rfl
    | 8, _, _ => rfl
    | 9, _, _ => rfl
    | 10, _, _ => rfl
    | 11, _, _ => rfl
    | 12, _, _ => rfl
    | 13, _, _ => rfl
    | 14, hl, hne =>
      have h9 : ¬ i' = i := fun z => hne ⟨rfl, z⟩
      show (.inr (5, [.ref (ad 10 (cK (cSK τ 14 i v) 10 i')), .int (cI (cSK τ 14 i v) 21 i'), va_rf (if cK (cSK τ 14 i v) 14 i' = 0 then none else some (ad 15 (cK (cSK τ 14 i v) 14 i' - 1))), .long (cL (cSK τ 14 i v) 21 i')]) : va_E) = (.inr (5, [.ref (ad 10 (cK τ 10 i')), .int (cI τ 21 i'), va_rf (if cK τ 14 i' = 0 then none else some (ad 15 (cK τ 14 i' - 1))), .long (cL τ 21 i')]) : va_E)
      first | (simp [cSI_I, cSI_L, cSI_K, cSI_N, cSI_M, cSI_D, cSL_I, cSL_L, cSL_K, cSL_N, cSL_M, cSL_D, cSK_I, cSK_L, cSK_K, cSK_N, cSK_M, cSK_D, cSM_I, cSM_L, cSM_K, cSM_N, cSM_M, cSM_D, cSD_I, cSD_L, cSD_K, cSD_N, cSD_M, cSD_D, h9]; done) | (simp [cSI_I, cSI_L, cSI_K, cSI_N, cSI_M, cSI_D, cSL_I, cSL_L, cSL_K, cSL_N, cSL_M, cSL_D, cSK_I, cSK_L, cSK_K, cSK_N, cSK_M, cSK_D, cSM_I, cSM_L, cSM_K, cSM_N, cSM_M, cSM_D, cSD_I, cSD_L, cSD_K, cSD_N, cSD_M, cSD_D, h9]; rfl) | (simp [cSI_I, cSI_L, cSI_K, cSI_N, cSI_M, cSI_D, cSL_I, cSL_L, cSL_K, cSL_N, cSL_M, cSL_D, cSK_I, cSK_L, cSK_K, cSK_N, cSK_M, cSK_D, cSM_I, cSM_L, cSM_K, cSM_N, cSM_M, cSM_D, cSD_I, cSD_L, cSD_K, cSD_N, cSD_M, cSD_D, h9]; funext b; simp [cSI_I, cSI_L, cSI_K, cSI_N, cSI_M, cSI_D, cSL_I, cSL_L, cSL_K, cSL_N, cSL_M, cSL_D, cSK_I, cSK_L, cSK_K, cSK_N, cSK_M, cSK_D, cSM_I, cSM_L, cSM_K, cSM_N, cSM_M, cSM_D, cSD_I, cSD_L, cSD_K, cSD_N, cSD_M, cSD_D, h9])
    | 15, _, _ => rfl
    | 16, _, _ => rfl
    | 17, _, _ => rfl
    | 18, _, _ => rfl
theorem RC.p0_12 (hR : RC E Pr τ ad fa h) {i : Nat}  (v : Nat) : RC E Pr (cSK τ 5 0 v) ad fa (hset h (ad 0 0) (.inr (7, [.ref (ad 1 0), .ref (ad 2 0), .ref (ad 3 0), .ref (ad 4 0), .ref (ad 5 0), .ref (ad 6 0), .ref (ad 7 0), .int (nI (cN τ 0)), .int (nI (cN τ 1)), .int (nI (cN τ 2)), .int (nI (cN τ 3)), .int (nI (cN τ 4)), .int (nI v), .long (cL τ 0 0)]))) := by
  refine hR.put (K := 0) (i := 0) rfl (fun t ht => by rw [cSK_N, if_neg (by omega)]) ?_ (fun K' i' hl hne => ?_)
  · show _ = (.inr (7, [.ref (ad 1 0), .ref (ad 2 0), .ref (ad 3 0), .ref (ad 4 0), .ref (ad 5 0), .ref (ad 6 0), .ref (ad 7 0), .int (nI (cN (cSK τ 5 0 v) 0)), .int (nI (cN (cSK τ 5 0 v) 1)), .int (nI (cN (cSK τ 5 0 v) 2)), .int (nI (cN (cSK τ 5 0 v) 3)), .int (nI (cN (cSK τ 5 0 v) 4)), .int (nI (cN (cSK τ 5 0 v) 5)), .long (cL (cSK τ 5 0 v) 0 0)]) : va_E)
    first | (simp [cSI_I, cSI_L, cSI_K, cSI_N, cSI_M, cSI_D, cSL_I, cSL_L, cSL_K, cSL_N, cSL_M, cSL_D, cSK_I, cSK_L, cSK_K, cSK_N, cSK_M, cSK_D, cSM_I, cSM_L, cSM_K, cSM_N, cSM_M, cSM_D, cSD_I, cSD_L, cSD_K, cSD_N, cSD_M, cSD_D]; done) | (simp [cSI_I, cSI_L, cSI_K, cSI_N, cSI_M, cSI_D, cSL_I, cSL_L, cSL_K, cSL_N, cSL_M, cSL_D, cSK_I, cSK_L, cSK_K, cSK_N, cSK_M, cSK_D, cSM_I, cSM_L, cSM_K, cSM_N, cSM_M, cSM_D, cSD_I, cSD_L, cSD_K, cSD_N, cSD_M, cSD_D]; rfl)
  · match K', hl, hne with
    | 0, hl, hne => exact absurd ⟨rfl, hl⟩ hne
    | 1, _, _ => rfl
    | 2, _, _ => rfl
    | 3, _, _ => rfl
    | 4, _, _ => rfl
    | 5, _, _ => rfl
    | 6, _, _ => rfl
    | 7, _, _ => rfl
    | 8, _, _ => rfl
    | 9, _, _ => rfl
    | 10, _, _ => rfl
    | 11, _, _ => rfl
    | 12, _, _ => rfl
    | 13, _, _ => rfl
    | 14, _, _ => rfl
    | 15, _, _ => rfl
    | 16, _, _ => rfl
    | 17, _, _ => rfl
    | 18, _, _ => rfl
theorem RC.p0_13 (hR : RC E Pr τ ad fa h) {i : Nat}  (v : Int64) : RC E Pr (cSL τ 0 0 v) ad fa (hset h (ad 0 0) (.inr (7, [.ref (ad 1 0), .ref (ad 2 0), .ref (ad 3 0), .ref (ad 4 0), .ref (ad 5 0), .ref (ad 6 0), .ref (ad 7 0), .int (nI (cN τ 0)), .int (nI (cN τ 1)), .int (nI (cN τ 2)), .int (nI (cN τ 3)), .int (nI (cN τ 4)), .int (nI (cN τ 5)), .long v]))) := by
  refine hR.put (K := 0) (i := 0) rfl (fun t ht => rfl) ?_ (fun K' i' hl hne => ?_)
  · show _ = (.inr (7, [.ref (ad 1 0), .ref (ad 2 0), .ref (ad 3 0), .ref (ad 4 0), .ref (ad 5 0), .ref (ad 6 0), .ref (ad 7 0), .int (nI (cN (cSL τ 0 0 v) 0)), .int (nI (cN (cSL τ 0 0 v) 1)), .int (nI (cN (cSL τ 0 0 v) 2)), .int (nI (cN (cSL τ 0 0 v) 3)), .int (nI (cN (cSL τ 0 0 v) 4)), .int (nI (cN (cSL τ 0 0 v) 5)), .long (cL (cSL τ 0 0 v) 0 0)]) : va_E)
    first | (simp [cSI_I, cSI_L, cSI_K, cSI_N, cSI_M, cSI_D, cSL_I, cSL_L, cSL_K, cSL_N, cSL_M, cSL_D, cSK_I, cSK_L, cSK_K, cSK_N, cSK_M, cSK_D, cSM_I, cSM_L, cSM_K, cSM_N, cSM_M, cSM_D, cSD_I, cSD_L, cSD_K, cSD_N, cSD_M, cSD_D]; done) | (simp [cSI_I, cSI_L, cSI_K, cSI_N, cSI_M, cSI_D, cSL_I, cSL_L, cSL_K, cSL_N, cSL_M, cSL_D, cSK_I, cSK_L, cSK_K, cSK_N, cSK_M, cSK_D, cSM_I, cSM_L, cSM_K, cSM_N, cSM_M, cSM_D, cSD_I, cSD_L, cSD_K, cSD_N, cSD_M, cSD_D]; rfl)
  · match K', hl, hne with
    | 0, hl, hne => exact absurd ⟨rfl, hl⟩ hne
    | 1, _, _ => rfl
    | 2, _, _ => rfl
    | 3, _, _ => rfl
    | 4, _, _ => rfl
    | 5, _, _ => rfl
    | 6, _, _ => rfl
    | 7, _, _ => rfl
    | 8, _, _ => rfl
    | 9, _, _ => rfl
    | 10, _, _ => rfl
    | 11, _, _ => rfl
    | 12, _, _ => rfl
    | 13, _, _ => rfl
    | 14, _, _ => rfl
    | 15, _, _ => rfl
    | 16, _, _ => rfl
    | 17, _, _ => rfl
    | 18, _, _ => rfl
theorem RC.a8 (hR : RC E Pr τ ad fa h) {i : Nat}  (j : Nat) (v : Int32) : RC E Pr (cSI τ 38 j v) ad fa (hset h (ad 8 0) (.inl (E 0, 80, .inl (upd (cI τ 38) j v)))) := by
  refine hR.put (K := 8) (i := 0) rfl (fun t ht => rfl) ?_ (fun K' i' hl hne => ?_)
  · show _ = (.inl (E 0, 80, .inl (cI (cSI τ 38 j v) 38)) : va_E)
    rw [show upd (cI τ 38) j v = cI (cSI τ 38 j v) 38 from by funext b; rw [cSI_I]; simp [upd]]
  · match K', hl, hne with
    | 0, _, _ => rfl
    | 1, _, _ => rfl
    | 2, _, _ => rfl
    | 3, _, _ => rfl
    | 4, _, _ => rfl
    | 5, _, _ => rfl
    | 6, _, _ => rfl
    | 7, _, _ => rfl
    | 8, hl, hne => exact absurd ⟨rfl, hl⟩ hne
    | 9, _, _ => rfl
    | 10, _, _ => rfl
    | 11, _, _ => rfl
    | 12, _, _ => rfl
    | 13, _, _ => rfl
    | 14, _, _ => rfl
    | 15, _, _ => rfl
    | 16, _, _ => rfl
    | 17, _, _ => rfl
    | 18, _, _ => rfl
theorem RC.a9 (hR : RC E Pr τ ad fa h) {i : Nat}  (j : Nat) (v : Int32) : RC E Pr (cSI τ 39 j v) ad fa (hset h (ad 9 0) (.inl (E 0, 80, .inl (upd (cI τ 39) j v)))) := by
  refine hR.put (K := 9) (i := 0) rfl (fun t ht => rfl) ?_ (fun K' i' hl hne => ?_)
  · show _ = (.inl (E 0, 80, .inl (cI (cSI τ 39 j v) 39)) : va_E)
    rw [show upd (cI τ 39) j v = cI (cSI τ 39 j v) 39 from by funext b; rw [cSI_I]; simp [upd]]
  · match K', hl, hne with
    | 0, _, _ => rfl
    | 1, _, _ => rfl
    | 2, _, _ => rfl
    | 3, _, _ => rfl
    | 4, _, _ => rfl
    | 5, _, _ => rfl
    | 6, _, _ => rfl
    | 7, _, _ => rfl
    | 8, _, _ => rfl
    | 9, hl, hne => exact absurd ⟨rfl, hl⟩ hne
    | 10, _, _ => rfl
    | 11, _, _ => rfl
    | 12, _, _ => rfl
    | 13, _, _ => rfl
    | 14, _, _ => rfl
    | 15, _, _ => rfl
    | 16, _, _ => rfl
    | 17, _, _ => rfl
    | 18, _, _ => rfl
theorem RC.a11 (hR : RC E Pr τ ad fa h) {i : Nat} (hi : i < cN τ 0) (y : Nat) (v : Int32) : RC E Pr (cSM τ 0 i y v) ad fa (hset h (ad 11 i) (.inl (E 0, 20, .inl (upd (cM τ 0 i) y v)))) := by
  refine hR.put (K := 11) (i := i) hi (fun t ht => rfl) ?_ (fun K' i' hl hne => ?_)
  · show _ = (.inl (E 0, 20, .inl (cM (cSM τ 0 i y v) 0 i)) : va_E)
    rw [show upd (cM τ 0 i) y v = cM (cSM τ 0 i y v) 0 i from by funext b; rw [cSM_M]; simp [upd]]
  · match K', hl, hne with
    | 0, _, _ => rfl
    | 1, _, _ => rfl
    | 2, _, _ => rfl
    | 3, _, _ => rfl
    | 4, _, _ => rfl
    | 5, _, _ => rfl
    | 6, _, _ => rfl
    | 7, _, _ => rfl
    | 8, _, _ => rfl
    | 9, _, _ => rfl
    | 10, _, _ => rfl
    | 11, hl, hne =>
      have h9 : ¬ i' = i := fun z => hne ⟨rfl, z⟩
      show (.inl (E 0, 20, .inl (cM (cSM τ 0 i y v) 0 i')) : va_E) = (.inl (E 0, 20, .inl (cM τ 0 i')) : va_E)
      first | (simp [cSI_I, cSI_L, cSI_K, cSI_N, cSI_M, cSI_D, cSL_I, cSL_L, cSL_K, cSL_N, cSL_M, cSL_D, cSK_I, cSK_L, cSK_K, cSK_N, cSK_M, cSK_D, cSM_I, cSM_L, cSM_K, cSM_N, cSM_M, cSM_D, cSD_I, cSD_L, cSD_K, cSD_N, cSD_M, cSD_D, h9]; done) | (simp [cSI_I, cSI_L, cSI_K, cSI_N, cSI_M, cSI_D, cSL_I, cSL_L, cSL_K, cSL_N, cSL_M, cSL_D, cSK_I, cSK_L, cSK_K, cSK_N, cSK_M, cSK_D, cSM_I, cSM_L, cSM_K, cSM_N, cSM_M, cSM_D, cSD_I, cSD_L, cSD_K, cSD_N, cSD_M, cSD_D, h9]; rfl) | (simp [cSI_I, cSI_L, cSI_K, cSI_N, cSI_M, cSI_D, cSL_I, cSL_L, cSL_K, cSL_N, cSL_M, cSL_D, cSK_I, cSK_L, cSK_K, cSK_N, cSK_M, cSK_D, cSM_I, cSM_L, cSM_K, cSM_N, cSM_M, cSM_D, cSD_I, cSD_L, cSD_K, cSD_N, cSD_M, cSD_D, h9]; funext b; simp [cSI_I, cSI_L, cSI_K, cSI_N, cSI_M, cSI_D, cSL_I, cSL_L, cSL_K, cSL_N, cSL_M, cSL_D, cSK_I, cSK_L, cSK_K, cSK_N, cSK_M, cSK_D, cSM_I, cSM_L, cSM_K, cSM_N, cSM_M, cSM_D, cSD_I, cSD_L, cSD_K, cSD_N, cSD_M, cSD_D, h9])
    | 12, _, _ => rfl
    | 13, _, _ => rfl
    | 14, _, _ => rfl
    | 15, _, _ => rfl
    | 16, _, _ => rfl
    | 17, _, _ => rfl
    | 18, _, _ => rfl
theorem RC.a12 (hR : RC E Pr τ ad fa h) {i : Nat} (hi : i < cN τ 0) (y : Nat) (v : Int32) : RC E Pr (cSM τ 1 i y v) ad fa (hset h (ad 12 i) (.inl (E 2, 20, .inl (upd (cM τ 1 i) y v)))) := by
  refine hR.put (K := 12) (i := i) hi (fun t ht => rfl) ?_ (fun K' i' hl hne => ?_)
  · show _ = (.inl (E 2, 20, .inl (cM (cSM τ 1 i y v) 1 i)) : va_E)
    rw [show upd (cM τ 1 i) y v = cM (cSM τ 1 i y v) 1 i from by funext b; rw [cSM_M]; simp [upd]]
  · match K', hl, hne with
    | 0, _, _ => rfl
    | 1, _, _ => rfl
    | 2, _, _ => rfl
    | 3, _, _ => rfl
    | 4, _, _ => rfl
    | 5, _, _ => rfl
    | 6, _, _ => rfl
    | 7, _, _ => rfl
    | 8, _, _ => rfl
    | 9, _, _ => rfl
    | 10, _, _ => rfl
    | 11, _, _ => rfl
    | 12, hl, hne =>
      have h9 : ¬ i' = i := fun z => hne ⟨rfl, z⟩
      show (.inl (E 2, 20, .inl (cM (cSM τ 1 i y v) 1 i')) : va_E) = (.inl (E 2, 20, .inl (cM τ 1 i')) : va_E)
      first | (simp [cSI_I, cSI_L, cSI_K, cSI_N, cSI_M, cSI_D, cSL_I, cSL_L, cSL_K, cSL_N, cSL_M, cSL_D, cSK_I, cSK_L, cSK_K, cSK_N, cSK_M, cSK_D, cSM_I, cSM_L, cSM_K, cSM_N, cSM_M, cSM_D, cSD_I, cSD_L, cSD_K, cSD_N, cSD_M, cSD_D, h9]; done) | (simp [cSI_I, cSI_L, cSI_K, cSI_N, cSI_M, cSI_D, cSL_I, cSL_L, cSL_K, cSL_N, cSL_M, cSL_D, cSK_I, cSK_L, cSK_K, cSK_N, cSK_M, cSK_D, cSM_I, cSM_L, cSM_K, cSM_N, cSM_M, cSM_D, cSD_I, cSD_L, cSD_K, cSD_N, cSD_M, cSD_D, h9]; rfl) | (simp [cSI_I, cSI_L, cSI_K, cSI_N, cSI_M, cSI_D, cSL_I, cSL_L, cSL_K, cSL_N, cSL_M, cSL_D, cSK_I, cSK_L, cSK_K, cSK_N, cSK_M, cSK_D, cSM_I, cSM_L, cSM_K, cSM_N, cSM_M, cSM_D, cSD_I, cSD_L, cSD_K, cSD_N, cSD_M, cSD_D, h9]; funext b; simp [cSI_I, cSI_L, cSI_K, cSI_N, cSI_M, cSI_D, cSL_I, cSL_L, cSL_K, cSL_N, cSL_M, cSL_D, cSK_I, cSK_L, cSK_K, cSK_N, cSK_M, cSK_D, cSM_I, cSM_L, cSM_K, cSM_N, cSM_M, cSM_D, cSD_I, cSD_L, cSD_K, cSD_N, cSD_M, cSD_D, h9])
    | 13, _, _ => rfl
    | 14, _, _ => rfl
    | 15, _, _ => rfl
    | 16, _, _ => rfl
    | 17, _, _ => rfl
    | 18, _, _ => rfl
theorem RC.a13 (hR : RC E Pr τ ad fa h) {i : Nat} (hi : i < cN τ 0) (y : Nat) (v : Int64) : RC E Pr (cSD τ i y v) ad fa (hset h (ad 13 i) (.inl (E 1, 20, .inr (.inl (vp_updL (cD τ i) y v))))) := by
  refine hR.put (K := 13) (i := i) hi (fun t ht => rfl) ?_ (fun K' i' hl hne => ?_)
  · show _ = (.inl (E 1, 20, .inr (.inl (cD (cSD τ i y v) i))) : va_E)
    rw [show vp_updL (cD τ i) y v = cD (cSD τ i y v) i from by funext b; rw [cSD_D]; simp [vp_updL]]
  · match K', hl, hne with
    | 0, _, _ => rfl
    | 1, _, _ => rfl
    | 2, _, _ => rfl
    | 3, _, _ => rfl
    | 4, _, _ => rfl
    | 5, _, _ => rfl
    | 6, _, _ => rfl
    | 7, _, _ => rfl
    | 8, _, _ => rfl
    | 9, _, _ => rfl
    | 10, _, _ => rfl
    | 11, _, _ => rfl
    | 12, _, _ => rfl
    | 13, hl, hne =>
      have h9 : ¬ i' = i := fun z => hne ⟨rfl, z⟩
      show (.inl (E 1, 20, .inr (.inl (cD (cSD τ i y v) i'))) : va_E) = (.inl (E 1, 20, .inr (.inl (cD τ i'))) : va_E)
      first | (simp [cSI_I, cSI_L, cSI_K, cSI_N, cSI_M, cSI_D, cSL_I, cSL_L, cSL_K, cSL_N, cSL_M, cSL_D, cSK_I, cSK_L, cSK_K, cSK_N, cSK_M, cSK_D, cSM_I, cSM_L, cSM_K, cSM_N, cSM_M, cSM_D, cSD_I, cSD_L, cSD_K, cSD_N, cSD_M, cSD_D, h9]; done) | (simp [cSI_I, cSI_L, cSI_K, cSI_N, cSI_M, cSI_D, cSL_I, cSL_L, cSL_K, cSL_N, cSL_M, cSL_D, cSK_I, cSK_L, cSK_K, cSK_N, cSK_M, cSK_D, cSM_I, cSM_L, cSM_K, cSM_N, cSM_M, cSM_D, cSD_I, cSD_L, cSD_K, cSD_N, cSD_M, cSD_D, h9]; rfl) | (simp [cSI_I, cSI_L, cSI_K, cSI_N, cSI_M, cSI_D, cSL_I, cSL_L, cSL_K, cSL_N, cSL_M, cSL_D, cSK_I, cSK_L, cSK_K, cSK_N, cSK_M, cSK_D, cSM_I, cSM_L, cSM_K, cSM_N, cSM_M, cSM_D, cSD_I, cSD_L, cSD_K, cSD_N, cSD_M, cSD_D, h9]; funext b; simp [cSI_I, cSI_L, cSI_K, cSI_N, cSI_M, cSI_D, cSL_I, cSL_L, cSL_K, cSL_N, cSL_M, cSL_D, cSK_I, cSK_L, cSK_K, cSK_N, cSK_M, cSK_D, cSM_I, cSM_L, cSM_K, cSM_N, cSM_M, cSM_D, cSD_I, cSD_L, cSD_K, cSD_N, cSD_M, cSD_D, h9])
    | 14, _, _ => rfl
    | 15, _, _ => rfl
    | 16, _, _ => rfl
    | 17, _, _ => rfl
    | 18, _, _ => rfl
end RCP
theorem xofWF {l : Launch} {y : MethodName} {ws ws' : List Cond} {rm : Room} {Pc : Array Value → State → Prop} {Qc : Array Value → State → Outcome → State → Prop} {mc ms : Nat} {free : Addr → Prop} {cc : ByteArray} {maxL : Nat} {ret : Option FieldType}
    (hy : plainFor y = true) (hw : ws = Cond.code y cc maxL ret :: ws')
    (body : ∀ p e s m args below meth c s₁, BodyLoose p l y (headSpec ws rm) cc maxL ret e s m args below meth c s₁ → c.maxLocals = maxL → Pc args s →
      W p l e (headSpec ws rm).room s m args below meth c s.heap [] 0 0 (MQ below Qc args s mc ms free) (entryFrame m args maxL)) : Met l y ws rm Pc Qc mc ms free := by
  refine MetFree.of_bodySF (code := cc) (maxLocals := maxL) (ret := ret) hy ?_ ?_
  · intro args s m h hn
    obtain ⟨meth, c, h1, h2, h3, h4, h5, h6, -, -⟩ := Cond.code_spec hn (atoms_spec (ws := ws) h _ (by rw [hw]; exact List.mem_cons_self))
    exact ⟨meth, c, h1, h2, h3, h4, h5, h6⟩
  · intro p e s m args below meth c s₁ B hml hP _
    have hh0 : s₁.heap = s.heap := by rw [B.state]; rfl
    obtain ⟨t, a1, o, b1, b2, b3⟩ := body p e s m args below meth c s₁ B hml hP s₁ hh0 (Stand.of_body B)
    exact ⟨t, o, a1, b1, b2, ⟨b3.1, b3.2⟩⟩
theorem dsc_step {A k : Nat} (hk : k < A) : (nI (A - k) + (-1)) + Int32.ofInt (-1) = nI (A - (k + 1)) + (-1) := by
  have h1 : A - k = A - (k + 1) + 1 := by omega
  rw [h1, pk_m1]
  rfl
theorem dsc_ix {A k : Nat} (hk : k < A) : nI (A - k) + (-1) = nI (A - k - 1) := by
  have h1 : A - k = (A - k - 1) + 1 := by omega
  rw [h1, pk_m1]
  rfl
theorem dsc_exit {A B k : Nat} (h1 : A - k = B) (hB : B < 2 ^ 31) : nI (A - k) + (-1) < nI B := by
  rw [h1]
  cases B with
  | zero => decide
  | succ b => rw [pk_m1]; exact nI_lt (by omega) hB
theorem dsc_stay {A B k : Nat} (h1 : B < A - k) (hB : A < 2 ^ 31) : ¬ nI (A - k) + (-1) < nI B := by
  have h2 : A - k = (A - k - 1) + 1 := by omega
  rw [h2, pk_m1]
  exact nI_nlt (by omega) (by omega)
theorem dsc_0 {X : Nat} : nI (X + 1 - 0) + (-1) = nI X := pk_m1 X
section XACMP
variable {p : Program} {l : Launch} {e : Env} {R : Room} {s : State} {m : MethodId} {args : Array Value} {below : List Frame} {meth : Method} {c : Code} {H : Heap} {locs : List Loc} {cells slots : Nat} {Q : State → Prop} {cc : ByteArray} {pc : Nat} {ls : Array Slot} {rest : List Value} {off : Int} {tgt a b : Nat} {P : Prop}
theorem xac_ne (hx : p.tables.exec = Jvm.exec) (hb : c.code = cc) (hd : decode cc pc = .ok (.if_acmp .ne off, 3)) (ht : (pc : Int) + off = (tgt : Int)) (hP : a = b ↔ P) (kt : ¬ P → W p l e R s m args below meth c H locs cells slots Q (F0 m tgt ls rest)) (kf : P → W p l e R s m args below meth c H locs cells slots Q (F0 m (pc + 3) ls rest)) : W p l e R s m args below meth c H locs cells slots Q (F0 m pc ls (.ref b :: .ref a :: rest)) :=
  lv_acmp_ne (rx := some a) (ry := some b) hx hb hd ht (fun q => kt (fun z => q (congrArg some (hP.mpr z)))) (fun q => kf (hP.mp (Option.some.inj q)))
theorem xac_eq (hx : p.tables.exec = Jvm.exec) (hb : c.code = cc) (hd : decode cc pc = .ok (.if_acmp .eq off, 3)) (ht : (pc : Int) + off = (tgt : Int)) (hP : a = b ↔ P) (kt : P → W p l e R s m args below meth c H locs cells slots Q (F0 m tgt ls rest)) (kf : ¬ P → W p l e R s m args below meth c H locs cells slots Q (F0 m (pc + 3) ls rest)) : W p l e R s m args below meth c H locs cells slots Q (F0 m pc ls (.ref b :: .ref a :: rest)) :=
  lv_acmp_eq (rx := some a) (ry := some b) hx hb hd ht (fun q => kt (hP.mp (Option.some.inj q))) (fun q => kf (fun z => q (congrArg some (hP.mpr z))))
end XACMP
theorem CW.sI {τ : CT} (hW : CW τ) {t : Nat} (ht : t ≠ 26 ∧ t ≠ 27 ∧ t ≠ 28 ∧ t ≠ 33 ∧ t ≠ 34) (i : Nat) (v : Int32) : CW (cSI τ t i v) := by
  obtain ⟨a1, a2, a3, a4, a5, a6, a7, a8, b1, b2, b3, b4, b5, b6⟩ := hW
  obtain ⟨t1, t2, t3, t4, t5⟩ := ht
  refine ⟨a1, a2, a3, a4, a5, a6, a7, a8, b1, fun j => ?_, fun j => ?_, fun j => ?_, fun j => ?_, fun j => ?_⟩
  · rw [cSI_I, if_neg (fun q => t1 q.1.symm)]; exact b2 j
  · rw [cSI_I, if_neg (fun q => t2 q.1.symm)]; exact b3 j
  · rw [cSI_I, if_neg (fun q => t3 q.1.symm)]; exact b4 j
  · rw [cSI_I, if_neg (fun q => t4 q.1.symm)]; exact b5 j
  · rw [cSI_I, if_neg (fun q => t5 q.1.symm)]; exact b6 j
theorem CW.sB {τ : CT} (hW : CW τ) (t i : Nat) {v : Int32} (hv : v = 0 ∨ v = 1) : CW (cSI τ t i v) := by
  obtain ⟨a1, a2, a3, a4, a5, a6, a7, a8, b1, b2, b3, b4, b5, b6⟩ := hW
  refine ⟨a1, a2, a3, a4, a5, a6, a7, a8, b1, fun j => ?_, fun j => ?_, fun j => ?_, fun j => ?_, fun j => ?_⟩
  · rw [cSI_I]; split
    · exact hv
    · exact b2 j
  · rw [cSI_I]; split
    · exact hv
    · exact b3 j
  · rw [cSI_I]; split
    · exact hv
    · exact b4 j
  · rw [cSI_I]; split
    · exact hv
    · exact b5 j
  · rw [cSI_I]; split
    · exact hv
    · exact b6 j
theorem CW.sL {τ : CT} (hW : CW τ) (t i : Nat) (v : Int64) : CW (cSL τ t i v) := hW
theorem CW.sD {τ : CT} (hW : CW τ) (m y : Nat) (v : Int64) : CW (cSD τ m y v) := hW
theorem CW.sM0 {τ : CT} (hW : CW τ) (m y : Nat) (v : Int32) : CW (cSM τ 0 m y v) := by
  obtain ⟨a1, a2, a3, a4, a5, a6, a7, a8, b1, b2⟩ := hW
  exact ⟨a1, a2, a3, a4, a5, a6, a7, a8, fun a b => by rw [cSM_M, if_neg (fun q => by cases q.1)]; exact b1 a b, b2⟩
theorem CW.sM1 {τ : CT} (hW : CW τ) (m y : Nat) {v : Int32} (hv : v = 0 ∨ v = 1) : CW (cSM τ 1 m y v) := by
  obtain ⟨a1, a2, a3, a4, a5, a6, a7, a8, b1, b2⟩ := hW
  refine ⟨a1, a2, a3, a4, a5, a6, a7, a8, fun a b => ?_, b2⟩
  rw [cSM_M]; split
  · exact hv
  · exact b1 a b
theorem CW.s5 {τ : CT} (hW : CW τ) {v : Nat} (hv : v < 2000) : CW (cSK τ 5 0 v) := by
  obtain ⟨a1, a2, a3, a4, a5, a6, a7, a8, b1⟩ := hW
  have e : ∀ t, t ≠ 5 → ∀ i, cK (cSK τ 5 0 v) t i = cK τ t i := fun t ht i => by rw [cSK_K, if_neg (fun q => ht q.1)]
  exact ⟨⟨a1.1, a1.2.1, a1.2.2.1, a1.2.2.2.1, a1.2.2.2.2.1, hv⟩, a2, a3, a4, a5, a6, a7, a8, b1⟩
theorem CW.s14 {τ : CT} (hW : CW τ) (i : Nat) {v : Nat} (hv : v ≤ cN τ 2) : CW (cSK τ 14 i v) := by
  obtain ⟨a1, a2, a3, a4, a5, a6, a7, a8, b1⟩ := hW
  refine ⟨a1, a2, a3, a4, a5, fun j hj => ?_, a7, a8, b1⟩
  rw [cSK_K]; split
  · exact hv
  · exact a6 j hj
theorem xfit {v : Int32} (h : v = 0 ∨ v = 1) : fits .boolean (.int v) = true := by
  rcases h with rfl | rfl <;> rfl
section XROWC
variable {p : Program} {l : Launch} {e : Env} {R : Room} {s : State} {m : MethodId} {args : Array Value} {below : List Frame} {meth : Method} {c : Code} {H : Heap} {locs : List Loc} {cells slots : Nat} {Q : State → Prop}
variable {cc : ByteArray} {pc : Nat} {ls : Array Slot} {rest : List Value} {D : va_G} {E : Nat → ClassId} {h h0 : XW} {lo n i a : Nat} {H0 : Heap} {Ts : List Cond} {Pr : Nat → Prop} {τ1 : CT} {ad : Nat → Nat → Nat} {fa : Nat → Nat → Option Nat}
theorem xputC {own C : String} {T : u_T} {N ci index : Nat} {fs : List Value} {v : Value} {ty : FieldType} (k : Nat) (hx : p.tables.exec = Jvm.exec) (hb : c.code = cc) (hts : ∀ w ∈ Ts, w.before args s = true) (hin : ∀ w ∈ u_ws C T N, w ∈ Ts) (ty0 : Nat → FieldType) (hty : ∀ k, k < N → parseFieldDescriptor (T k).2.2.1 = some (ty0 k)) (hnm : ∀ a, a < N → ∀ b, b < N → a ≠ b → (T a).2.1 ≠ (T b).2.1) (hown : s.vm.findClass own = some m.cls) (I : XI lo D E h s H) (hS : va_S (xA lo) H0 H locs) (hF : cF Pr h0 h) (ha : h a = some (.inr (ci, fs))) (hc : vwCl[ci]? = some (C, T, N)) (hk : k < N) (hlink : Cond.fieldLink own index C (T k).2.1 (T k).2.2.1 ∈ Ts) (hfst : (T k).1 = C) (hfin : (T k).2.2.2 = false) (hd : parseFieldDescriptor (T k).2.2.1 = some ty) (hn : narrow ty v = v) (hfit : fits ty v = true) (hl : k < fs.length) (hR1 : RC E Pr τ1 ad fa (hset h a (.inr (ci, fs.set k v)))) (hna : ¬ Pr a) (hdg : decode cc pc = .ok (.putfield index, 3))
    (kk : ∀ (H : Heap) (locs : List Loc) (h : XW), XI lo D E h s H → RC E Pr τ1 ad fa h → cF Pr h0 h → va_S (xA lo) H0 H locs → W p l e R s m args below meth c H locs cells slots Q (F0 m (pc + 3) ls rest)) : W p l e R s m args below meth c H locs cells slots Q (F0 m pc ls (v :: .ref a :: rest)) :=
  xput k hx hb hts hin ty0 hty hnm hown I hS ha hc hk hlink hfst hfin hd hn hfit hl hdg (fun H1 locs1 I1 S1 => kk H1 locs1 _ I1 hR1 (hF.put hna) S1)
theorem xiC {f : Nat → Int32} {x : Int32} (hx : p.tables.exec = Jvm.exec) (hb : c.code = cc) (I : XI lo D E h s H) (hS : va_S (xA lo) H0 H locs) (hF : cF Pr h0 h) (ha : h a = some (.inl (E 0, n, .inl f))) (hi : i < n) (hn : n < 2 ^ 31) (hR1 : RC E Pr τ1 ad fa (hset h a (.inl (E 0, n, .inl (upd f i x))))) (hna : ¬ Pr a) (hdg : decode cc pc = .ok (.iastore, 1))
    (kk : ∀ (H : Heap) (locs : List Loc) (h : XW), XI lo D E h s H → RC E Pr τ1 ad fa h → cF Pr h0 h → va_S (xA lo) H0 H locs → W p l e R s m args below meth c H locs cells slots Q (F0 m (pc + 1) ls rest)) : W p l e R s m args below meth c H locs cells slots Q (F0 m pc ls (.int x :: .int (nI i) :: .ref a :: rest)) :=
  xiast hx hb I hS ha hi hn hdg (fun H1 locs1 I1 S1 => kk H1 locs1 _ I1 hR1 (hF.put hna) S1)
theorem xlC {f : Nat → Int64} {x : Int64} (hx : p.tables.exec = Jvm.exec) (hb : c.code = cc) (I : XI lo D E h s H) (hS : va_S (xA lo) H0 H locs) (hF : cF Pr h0 h) (ha : h a = some (.inl (E 1, n, .inr (.inl f)))) (hi : i < n) (hn : n < 2 ^ 31) (hR1 : RC E Pr τ1 ad fa (hset h a (.inl (E 1, n, .inr (.inl (vp_updL f i x)))))) (hna : ¬ Pr a) (hdg : decode cc pc = .ok (.lastore, 1))
    (kk : ∀ (H : Heap) (locs : List Loc) (h : XW), XI lo D E h s H → RC E Pr τ1 ad fa h → cF Pr h0 h → va_S (xA lo) H0 H locs → W p l e R s m args below meth c H locs cells slots Q (F0 m (pc + 1) ls rest)) : W p l e R s m args below meth c H locs cells slots Q (F0 m pc ls (.long x :: .int (nI i) :: .ref a :: rest)) :=
  xlast hx hb I hS ha hi hn hdg (fun H1 locs1 I1 S1 => kk H1 locs1 _ I1 hR1 (hF.put hna) S1)
theorem xzC {f : Nat → Int32} {x : Int32} (hx : p.tables.exec = Jvm.exec) (hb : c.code = cc) (I : XI lo D E h s H) (hS : va_S (xA lo) H0 H locs) (hF : cF Pr h0 h) (ha : h a = some (.inl (E 2, n, .inl f))) (hi : i < n) (hn : n < 2 ^ 31) (hR1 : RC E Pr τ1 ad fa (hset h a (.inl (E 2, n, .inl (upd f i (vp_nar .boolean x)))))) (hna : ¬ Pr a) (hdg : decode cc pc = .ok (.bastore, 1))
    (kk : ∀ (H : Heap) (locs : List Loc) (h : XW), XI lo D E h s H → RC E Pr τ1 ad fa h → cF Pr h0 h → va_S (xA lo) H0 H locs → W p l e R s m args below meth c H locs cells slots Q (F0 m (pc + 1) ls rest)) : W p l e R s m args below meth c H locs cells slots Q (F0 m pc ls (.int x :: .int (nI i) :: .ref a :: rest)) :=
  xzast' hx hb I hS ha hi hn hdg (fun H1 locs1 I1 S1 => kk H1 locs1 _ I1 hR1 (hF.put hna) S1)
end XROWC
