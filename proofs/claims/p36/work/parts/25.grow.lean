theorem fset_up {fa : Nat → Nat → Option Nat} {k j : Nat} {x : Option Nat} : fset fa k j x k = va_up (fa k) j x := by funext b; simp [fset, va_up]
def cNewM (τ : CT) : CT := (fun a b => if a = 20 ∧ b = cN τ 0 then -1 else cI τ a b, fun a b => if a = 20 ∧ b = cN τ 0 then 0 else cL τ a b, fun a b => if a = 0 ∧ b = 0 then cN τ 0 + 1 else cK τ a b, fun a b d => if b = cN τ 0 then (if a = 0 then xfil (nI 100) (fun _ => 0) 20 d else 0) else cM τ a b d, fun b d => if b = cN τ 0 then 0 else cD τ b d)
theorem cNewM_I (τ : CT) (a b : Nat) : cI (cNewM τ) a b = if a = 20 ∧ b = cN τ 0 then -1 else cI τ a b := rfl
theorem cNewM_L (τ : CT) (a b : Nat) : cL (cNewM τ) a b = if a = 20 ∧ b = cN τ 0 then 0 else cL τ a b := rfl
theorem cNewM_K (τ : CT) (a b : Nat) : cK (cNewM τ) a b = if a = 0 ∧ b = 0 then cN τ 0 + 1 else cK τ a b := rfl
theorem cNewM_M (τ : CT) (a b d : Nat) : cM (cNewM τ) a b d = if b = cN τ 0 then (if a = 0 then xfil (nI 100) (fun _ => 0) 20 d else 0) else cM τ a b d := rfl
theorem cNewM_D (τ : CT) (b d : Nat) : cD (cNewM τ) b d = if b = cN τ 0 then 0 else cD τ b d := rfl
theorem cNewM_N (τ : CT) : cN (cNewM τ) 0 = cN τ 0 + 1 := by show cK (cNewM τ) 0 0 = _; rw [cNewM_K]; simp
theorem cNewM_N1 (τ : CT) : cN (cNewM τ) 1 = cN τ 1 := by show cK (cNewM τ) 1 0 = _; rw [cNewM_K]; simp; rfl
theorem cNewM_N2 (τ : CT) : cN (cNewM τ) 2 = cN τ 2 := by show cK (cNewM τ) 2 0 = _; rw [cNewM_K]; simp; rfl
theorem cNewM_N3 (τ : CT) : cN (cNewM τ) 3 = cN τ 3 := by show cK (cNewM τ) 3 0 = _; rw [cNewM_K]; simp; rfl
theorem cNewM_N4 (τ : CT) : cN (cNewM τ) 4 = cN τ 4 := by show cK (cNewM τ) 4 0 = _; rw [cNewM_K]; simp; rfl
theorem cNewM_N5 (τ : CT) : cN (cNewM τ) 5 = cN τ 5 := by show cK (cNewM τ) 5 0 = _; rw [cNewM_K]; simp; rfl
def cNewS (τ : CT) (o1 : Nat) (t1 : Int32) : CT := (fun a b => if a = 21 ∧ b = cN τ 1 then t1 else cI τ a b, fun a b => if a = 21 ∧ b = cN τ 1 then 0 else cL τ a b, fun a b => if a = 1 ∧ b = 0 then cN τ 1 + 1 else if a = 10 ∧ b = cN τ 1 then o1 else if a = 14 ∧ b = cN τ 1 then 0 else cK τ a b, fun a b d => cM τ a b d, fun b d => cD τ b d)
theorem cNewS_I (τ : CT) (o1 : Nat) (t1 : Int32) (a b : Nat) : cI (cNewS τ o1 t1) a b = if a = 21 ∧ b = cN τ 1 then t1 else cI τ a b := rfl
theorem cNewS_L (τ : CT) (o1 : Nat) (t1 : Int32) (a b : Nat) : cL (cNewS τ o1 t1) a b = if a = 21 ∧ b = cN τ 1 then 0 else cL τ a b := rfl
theorem cNewS_K (τ : CT) (o1 : Nat) (t1 : Int32) (a b : Nat) : cK (cNewS τ o1 t1) a b = if a = 1 ∧ b = 0 then cN τ 1 + 1 else if a = 10 ∧ b = cN τ 1 then o1 else if a = 14 ∧ b = cN τ 1 then 0 else cK τ a b := rfl
theorem cNewS_M (τ : CT) (o1 : Nat) (t1 : Int32) (a b d : Nat) : cM (cNewS τ o1 t1) a b d = cM τ a b d := rfl
theorem cNewS_D (τ : CT) (o1 : Nat) (t1 : Int32) (b d : Nat) : cD (cNewS τ o1 t1) b d = cD τ b d := rfl
theorem cNewS_N (τ : CT) (o1 : Nat) (t1 : Int32) : cN (cNewS τ o1 t1) 1 = cN τ 1 + 1 := by show cK (cNewS τ o1 t1) 1 0 = _; rw [cNewS_K]; simp
theorem cNewS_N0 (τ : CT) (o1 : Nat) (t1 : Int32) : cN (cNewS τ o1 t1) 0 = cN τ 0 := by show cK (cNewS τ o1 t1) 0 0 = _; rw [cNewS_K]; simp; rfl
theorem cNewS_N2 (τ : CT) (o1 : Nat) (t1 : Int32) : cN (cNewS τ o1 t1) 2 = cN τ 2 := by show cK (cNewS τ o1 t1) 2 0 = _; rw [cNewS_K]; simp; rfl
theorem cNewS_N3 (τ : CT) (o1 : Nat) (t1 : Int32) : cN (cNewS τ o1 t1) 3 = cN τ 3 := by show cK (cNewS τ o1 t1) 3 0 = _; rw [cNewS_K]; simp; rfl
theorem cNewS_N4 (τ : CT) (o1 : Nat) (t1 : Int32) : cN (cNewS τ o1 t1) 4 = cN τ 4 := by show cK (cNewS τ o1 t1) 4 0 = _; rw [cNewS_K]; simp; rfl
theorem cNewS_N5 (τ : CT) (o1 : Nat) (t1 : Int32) : cN (cNewS τ o1 t1) 5 = cN τ 5 := by show cK (cNewS τ o1 t1) 5 0 = _; rw [cNewS_K]; simp; rfl
def cNewE (τ : CT) (s1 : Nat) (d1 : Int32) : CT := (fun a b => if a = 22 ∧ b = cN τ 2 then d1 else if a = 23 ∧ b = cN τ 2 then nI 2000 else cI τ a b, fun a b => cL τ a b, fun a b => if a = 2 ∧ b = 0 then cN τ 2 + 1 else if a = 11 ∧ b = cN τ 2 then s1 else cK τ a b, fun a b d => cM τ a b d, fun b d => cD τ b d)
theorem cNewE_I (τ : CT) (s1 : Nat) (d1 : Int32) (a b : Nat) : cI (cNewE τ s1 d1) a b = if a = 22 ∧ b = cN τ 2 then d1 else if a = 23 ∧ b = cN τ 2 then nI 2000 else cI τ a b := rfl
theorem cNewE_L (τ : CT) (s1 : Nat) (d1 : Int32) (a b : Nat) : cL (cNewE τ s1 d1) a b = cL τ a b := rfl
theorem cNewE_K (τ : CT) (s1 : Nat) (d1 : Int32) (a b : Nat) : cK (cNewE τ s1 d1) a b = if a = 2 ∧ b = 0 then cN τ 2 + 1 else if a = 11 ∧ b = cN τ 2 then s1 else cK τ a b := rfl
theorem cNewE_M (τ : CT) (s1 : Nat) (d1 : Int32) (a b d : Nat) : cM (cNewE τ s1 d1) a b d = cM τ a b d := rfl
theorem cNewE_D (τ : CT) (s1 : Nat) (d1 : Int32) (b d : Nat) : cD (cNewE τ s1 d1) b d = cD τ b d := rfl
theorem cNewE_N (τ : CT) (s1 : Nat) (d1 : Int32) : cN (cNewE τ s1 d1) 2 = cN τ 2 + 1 := by show cK (cNewE τ s1 d1) 2 0 = _; rw [cNewE_K]; simp
theorem cNewE_N0 (τ : CT) (s1 : Nat) (d1 : Int32) : cN (cNewE τ s1 d1) 0 = cN τ 0 := by show cK (cNewE τ s1 d1) 0 0 = _; rw [cNewE_K]; simp; rfl
theorem cNewE_N1 (τ : CT) (s1 : Nat) (d1 : Int32) : cN (cNewE τ s1 d1) 1 = cN τ 1 := by show cK (cNewE τ s1 d1) 1 0 = _; rw [cNewE_K]; simp; rfl
theorem cNewE_N3 (τ : CT) (s1 : Nat) (d1 : Int32) : cN (cNewE τ s1 d1) 3 = cN τ 3 := by show cK (cNewE τ s1 d1) 3 0 = _; rw [cNewE_K]; simp; rfl
theorem cNewE_N4 (τ : CT) (s1 : Nat) (d1 : Int32) : cN (cNewE τ s1 d1) 4 = cN τ 4 := by show cK (cNewE τ s1 d1) 4 0 = _; rw [cNewE_K]; simp; rfl
theorem cNewE_N5 (τ : CT) (s1 : Nat) (d1 : Int32) : cN (cNewE τ s1 d1) 5 = cN τ 5 := by show cK (cNewE τ s1 d1) 5 0 = _; rw [cNewE_K]; simp; rfl
def cNewC (τ : CT) (s1 k1 : Nat) (l1 : Int32) (e1 : Nat) : CT := (fun a b => if a = 24 ∧ b = cN τ 3 then l1 else if (a = 25 ∨ a = 26 ∨ a = 27 ∨ a = 28) ∧ b = cN τ 3 then 0 else cI τ a b, fun a b => cL τ a b, fun a b => if a = 3 ∧ b = 0 then cN τ 3 + 1 else if a = 12 ∧ b = cN τ 3 then s1 else if a = 15 ∧ b = cN τ 3 then k1 else if a = 13 ∧ b = cN τ 3 then e1 else cK τ a b, fun a b d => cM τ a b d, fun b d => cD τ b d)
theorem cNewC_I (τ : CT) (s1 k1 : Nat) (l1 : Int32) (e1 : Nat) (a b : Nat) : cI (cNewC τ s1 k1 l1 e1) a b = if a = 24 ∧ b = cN τ 3 then l1 else if (a = 25 ∨ a = 26 ∨ a = 27 ∨ a = 28) ∧ b = cN τ 3 then 0 else cI τ a b := rfl
theorem cNewC_L (τ : CT) (s1 k1 : Nat) (l1 : Int32) (e1 : Nat) (a b : Nat) : cL (cNewC τ s1 k1 l1 e1) a b = cL τ a b := rfl
theorem cNewC_K (τ : CT) (s1 k1 : Nat) (l1 : Int32) (e1 : Nat) (a b : Nat) : cK (cNewC τ s1 k1 l1 e1) a b = if a = 3 ∧ b = 0 then cN τ 3 + 1 else if a = 12 ∧ b = cN τ 3 then s1 else if a = 15 ∧ b = cN τ 3 then k1 else if a = 13 ∧ b = cN τ 3 then e1 else cK τ a b := rfl
theorem cNewC_M (τ : CT) (s1 k1 : Nat) (l1 : Int32) (e1 : Nat) (a b d : Nat) : cM (cNewC τ s1 k1 l1 e1) a b d = cM τ a b d := rfl
theorem cNewC_D (τ : CT) (s1 k1 : Nat) (l1 : Int32) (e1 : Nat) (b d : Nat) : cD (cNewC τ s1 k1 l1 e1) b d = cD τ b d := rfl
theorem cNewC_N (τ : CT) (s1 k1 : Nat) (l1 : Int32) (e1 : Nat) : cN (cNewC τ s1 k1 l1 e1) 3 = cN τ 3 + 1 := by show cK (cNewC τ s1 k1 l1 e1) 3 0 = _; rw [cNewC_K]; simp
theorem cNewC_N0 (τ : CT) (s1 k1 : Nat) (l1 : Int32) (e1 : Nat) : cN (cNewC τ s1 k1 l1 e1) 0 = cN τ 0 := by show cK (cNewC τ s1 k1 l1 e1) 0 0 = _; rw [cNewC_K]; simp; rfl
theorem cNewC_N1 (τ : CT) (s1 k1 : Nat) (l1 : Int32) (e1 : Nat) : cN (cNewC τ s1 k1 l1 e1) 1 = cN τ 1 := by show cK (cNewC τ s1 k1 l1 e1) 1 0 = _; rw [cNewC_K]; simp; rfl
theorem cNewC_N2 (τ : CT) (s1 k1 : Nat) (l1 : Int32) (e1 : Nat) : cN (cNewC τ s1 k1 l1 e1) 2 = cN τ 2 := by show cK (cNewC τ s1 k1 l1 e1) 2 0 = _; rw [cNewC_K]; simp; rfl
theorem cNewC_N4 (τ : CT) (s1 k1 : Nat) (l1 : Int32) (e1 : Nat) : cN (cNewC τ s1 k1 l1 e1) 4 = cN τ 4 := by show cK (cNewC τ s1 k1 l1 e1) 4 0 = _; rw [cNewC_K]; simp; rfl
theorem cNewC_N5 (τ : CT) (s1 k1 : Nat) (l1 : Int32) (e1 : Nat) : cN (cNewC τ s1 k1 l1 e1) 5 = cN τ 5 := by show cK (cNewC τ s1 k1 l1 e1) 5 0 = _; rw [cNewC_K]; simp; rfl
def cNewV (τ : CT) (d1 : Nat) : CT := (fun a b => if a = 29 ∧ b = cN τ 4 then nI (cN τ 4) else if a = 30 ∧ b = cN τ 4 then 0 else cI τ a b, fun a b => cL τ a b, fun a b => if a = 4 ∧ b = 0 then cN τ 4 + 1 else if a = 16 ∧ b = cN τ 4 then d1 else cK τ a b, fun a b d => cM τ a b d, fun b d => cD τ b d)
theorem cNewV_I (τ : CT) (d1 : Nat) (a b : Nat) : cI (cNewV τ d1) a b = if a = 29 ∧ b = cN τ 4 then nI (cN τ 4) else if a = 30 ∧ b = cN τ 4 then 0 else cI τ a b := rfl
theorem cNewV_L (τ : CT) (d1 : Nat) (a b : Nat) : cL (cNewV τ d1) a b = cL τ a b := rfl
theorem cNewV_K (τ : CT) (d1 : Nat) (a b : Nat) : cK (cNewV τ d1) a b = if a = 4 ∧ b = 0 then cN τ 4 + 1 else if a = 16 ∧ b = cN τ 4 then d1 else cK τ a b := rfl
theorem cNewV_M (τ : CT) (d1 : Nat) (a b d : Nat) : cM (cNewV τ d1) a b d = cM τ a b d := rfl
theorem cNewV_D (τ : CT) (d1 : Nat) (b d : Nat) : cD (cNewV τ d1) b d = cD τ b d := rfl
theorem cNewV_N (τ : CT) (d1 : Nat) : cN (cNewV τ d1) 4 = cN τ 4 + 1 := by show cK (cNewV τ d1) 4 0 = _; rw [cNewV_K]; simp
theorem cNewV_N0 (τ : CT) (d1 : Nat) : cN (cNewV τ d1) 0 = cN τ 0 := by show cK (cNewV τ d1) 0 0 = _; rw [cNewV_K]; simp; rfl
theorem cNewV_N1 (τ : CT) (d1 : Nat) : cN (cNewV τ d1) 1 = cN τ 1 := by show cK (cNewV τ d1) 1 0 = _; rw [cNewV_K]; simp; rfl
theorem cNewV_N2 (τ : CT) (d1 : Nat) : cN (cNewV τ d1) 2 = cN τ 2 := by show cK (cNewV τ d1) 2 0 = _; rw [cNewV_K]; simp; rfl
theorem cNewV_N3 (τ : CT) (d1 : Nat) : cN (cNewV τ d1) 3 = cN τ 3 := by show cK (cNewV τ d1) 3 0 = _; rw [cNewV_K]; simp; rfl
theorem cNewV_N5 (τ : CT) (d1 : Nat) : cN (cNewV τ d1) 5 = cN τ 5 := by show cK (cNewV τ d1) 5 0 = _; rw [cNewV_K]; simp; rfl
def adnM (ad : Nat → Nat → Nat) (j q a1 a2 a3 : Nat) (K i : Nat) : Nat := if K = 10 ∧ i = j then q else if K = 11 ∧ i = j then a1 else if K = 12 ∧ i = j then a2 else if K = 13 ∧ i = j then a3 else ad K i
theorem adnM_10 {ad : Nat → Nat → Nat} {j q a1 a2 a3 : Nat} : adnM ad j q a1 a2 a3 10 j = q := by simp [adnM]
theorem adnM_11 {ad : Nat → Nat → Nat} {j q a1 a2 a3 : Nat} : adnM ad j q a1 a2 a3 11 j = a1 := by simp [adnM]
theorem adnM_12 {ad : Nat → Nat → Nat} {j q a1 a2 a3 : Nat} : adnM ad j q a1 a2 a3 12 j = a2 := by simp [adnM]
theorem adnM_13 {ad : Nat → Nat → Nat} {j q a1 a2 a3 : Nat} : adnM ad j q a1 a2 a3 13 j = a3 := by simp [adnM]
theorem adnM_o {ad : Nat → Nat → Nat} {j q a1 a2 a3 K i : Nat} (h : i ≠ j) : adnM ad j q a1 a2 a3 K i = ad K i := by simp [adnM, h]
theorem adnM_k {ad : Nat → Nat → Nat} {j q a1 a2 a3 K i : Nat} (h : K ≠ 10 ∧ K ≠ 11 ∧ K ≠ 12 ∧ K ≠ 13) : adnM ad j q a1 a2 a3 K i = ad K i := by simp [adnM, h]
set_option maxHeartbeats 4000000 in
theorem RC.gM {E : Nat → ClassId} {Pr : Nat → Prop} {τ : CT} {ad : Nat → Nat → Nat} {fa : Nat → Nat → Option Nat} {h : XW} (hR : RC E Pr τ ad fa h) (hW : CW τ) {q a1 a2 a3 : Nat} (hj : fa 1 (cN τ 0) = some q) (g_q : h q = some (.inr (3, [.ref a1, .ref a2, .ref a3, .long 0, .int (-1)]))) (g_a1 : h a1 = some (.inl (E 0, 20, .inl (xfil (nI 100) (fun _ => 0) 20)))) (g_a2 : h a2 = some (.inl (E 2, 20, .inl (fun _ => 0)))) (g_a3 : h a3 = some (.inl (E 1, 20, .inr (.inl (fun _ => 0))))) (n_q : (∀ K i, clive τ K i → ad K i ≠ q) ∧ ¬ Pr q) (n_a1 : (∀ K i, clive τ K i → ad K i ≠ a1) ∧ ¬ Pr a1) (n_a2 : (∀ K i, clive τ K i → ad K i ≠ a2) ∧ ¬ Pr a2) (n_a3 : (∀ K i, clive τ K i → ad K i ≠ a3) ∧ ¬ Pr a3) (d_q_a1 : q ≠ a1) (d_q_a2 : q ≠ a2) (d_q_a3 : q ≠ a3) (d_a1_a2 : a1 ≠ a2) (d_a1_a3 : a1 ≠ a3) (d_a2_a3 : a2 ≠ a3) : ∃ ad1 : Nat → Nat → Nat, RC E Pr (cNewM τ) ad1 fa (hset h (ad 0 0) (.inr (7, [.ref (ad 1 0), .ref (ad 2 0), .ref (ad 3 0), .ref (ad 4 0), .ref (ad 5 0), .ref (ad 6 0), .ref (ad 7 0), .int (nI (cN τ 0 + 1)), .int (nI (cN τ 1)), .int (nI (cN τ 2)), .int (nI (cN τ 3)), .int (nI (cN τ 4)), .int (nI (cN τ 5)), .long (cL τ 0 0)]))) ∧ (∀ K i, clive τ K i → ad1 K i = ad K i) ∧ ad1 10 (cN τ 0) = q := by
  refine ⟨(adnM ad (cN τ 0) q a1 a2 a3), ?_, ?_, adnM_10⟩
  · refine hR.grow (τ1 := (cNewM τ)) ?_ ?_ ?_ ?_ ?_ ?_
    · show _ = (.inr (7, [.ref ((adnM ad (cN τ 0) q a1 a2 a3) 1 0), .ref ((adnM ad (cN τ 0) q a1 a2 a3) 2 0), .ref ((adnM ad (cN τ 0) q a1 a2 a3) 3 0), .ref ((adnM ad (cN τ 0) q a1 a2 a3) 4 0), .ref ((adnM ad (cN τ 0) q a1 a2 a3) 5 0), .ref ((adnM ad (cN τ 0) q a1 a2 a3) 6 0), .ref ((adnM ad (cN τ 0) q a1 a2 a3) 7 0), .int (nI (cN (cNewM τ) 0)), .int (nI (cN (cNewM τ) 1)), .int (nI (cN (cNewM τ) 2)), .int (nI (cN (cNewM τ) 3)), .int (nI (cN (cNewM τ) 4)), .int (nI (cN (cNewM τ) 5)), .long (cL (cNewM τ) 0 0)]) : va_E)
      simp [cNewM_I, cNewM_L, cNewM_K, cNewM_M, cNewM_D, cNewM_N, cNewM_N1, cNewM_N2, cNewM_N3, cNewM_N4, cNewM_N5, adnM]
    · intro K i hl
      match K, hl with
      | 0, hl => exact hl
      | 1, hl => exact hl
      | 2, hl => exact hl
      | 3, hl => exact hl
      | 4, hl => exact hl
      | 5, hl => exact hl
      | 6, hl => exact hl
      | 7, hl => exact hl
      | 8, hl => exact hl
      | 9, hl => exact hl
      | 10, hl => exact (show i < cN (cNewM τ) 0 by have h1 : i < cN τ 0 := hl; simp only [cNewM_I, cNewM_L, cNewM_K, cNewM_M, cNewM_D, cNewM_N, cNewM_N1, cNewM_N2, cNewM_N3, cNewM_N4, cNewM_N5]; omega)
      | 11, hl => exact (show i < cN (cNewM τ) 0 by have h1 : i < cN τ 0 := hl; simp only [cNewM_I, cNewM_L, cNewM_K, cNewM_M, cNewM_D, cNewM_N, cNewM_N1, cNewM_N2, cNewM_N3, cNewM_N4, cNewM_N5]; omega)
      | 12, hl => exact (show i < cN (cNewM τ) 0 by have h1 : i < cN τ 0 := hl; simp only [cNewM_I, cNewM_L, cNewM_K, cNewM_M, cNewM_D, cNewM_N, cNewM_N1, cNewM_N2, cNewM_N3, cNewM_N4, cNewM_N5]; omega)
      | 13, hl => exact (show i < cN (cNewM τ) 0 by have h1 : i < cN τ 0 := hl; simp only [cNewM_I, cNewM_L, cNewM_K, cNewM_M, cNewM_D, cNewM_N, cNewM_N1, cNewM_N2, cNewM_N3, cNewM_N4, cNewM_N5]; omega)
      | 14, hl => exact (show i < cN (cNewM τ) 1 by have h1 : i < cN τ 1 := hl; simp only [cNewM_I, cNewM_L, cNewM_K, cNewM_M, cNewM_D, cNewM_N, cNewM_N1, cNewM_N2, cNewM_N3, cNewM_N4, cNewM_N5]; omega)
      | 15, hl => exact (show i < cN (cNewM τ) 2 by have h1 : i < cN τ 2 := hl; simp only [cNewM_I, cNewM_L, cNewM_K, cNewM_M, cNewM_D, cNewM_N, cNewM_N1, cNewM_N2, cNewM_N3, cNewM_N4, cNewM_N5]; omega)
      | 16, hl => exact (show i < cN (cNewM τ) 3 by have h1 : i < cN τ 3 := hl; simp only [cNewM_I, cNewM_L, cNewM_K, cNewM_M, cNewM_D, cNewM_N, cNewM_N1, cNewM_N2, cNewM_N3, cNewM_N4, cNewM_N5]; omega)
      | 17, hl => exact (show i < cN (cNewM τ) 4 by have h1 : i < cN τ 4 := hl; simp only [cNewM_I, cNewM_L, cNewM_K, cNewM_M, cNewM_D, cNewM_N, cNewM_N1, cNewM_N2, cNewM_N3, cNewM_N4, cNewM_N5]; omega)
      | 18, hl => exact hl
    · intro K i hl hn
      match K, hl, hn with
      | 0, hl, hn => exact absurd hl hn
      | 1, hl, hn => exact absurd hl hn
      | 2, hl, hn => exact absurd hl hn
      | 3, hl, hn => exact absurd hl hn
      | 4, hl, hn => exact absurd hl hn
      | 5, hl, hn => exact absurd hl hn
      | 6, hl, hn => exact absurd hl hn
      | 7, hl, hn => exact absurd hl hn
      | 8, hl, hn => exact absurd hl hn
      | 9, hl, hn => exact absurd hl hn
      | 10, hl, hn =>
        have h1 : i < cN (cNewM τ) 0 := hl
        have h2 : ¬ i < cN τ 0 := hn
        rw [cNewM_N] at h1
        have h3 : i = (cN τ 0) := by omega
        subst h3
        refine ⟨?_, by rw [adnM_10]; exact n_q.1, by rw [adnM_10]; exact n_q.2⟩
        show h ((adnM ad (cN τ 0) q a1 a2 a3) 10 (cN τ 0)) = some (.inr (3, [.ref ((adnM ad (cN τ 0) q a1 a2 a3) 11 (cN τ 0)), .ref ((adnM ad (cN τ 0) q a1 a2 a3) 12 (cN τ 0)), .ref ((adnM ad (cN τ 0) q a1 a2 a3) 13 (cN τ 0)), .long (cL (cNewM τ) 20 (cN τ 0)), .int (cI (cNewM τ) 20 (cN τ 0))]))
        rw [adnM_10, g_q]
        simp [cNewM_I, cNewM_L, cNewM_K, cNewM_M, cNewM_D, cNewM_N, cNewM_N1, cNewM_N2, cNewM_N3, cNewM_N4, cNewM_N5, adnM, va_rf]
      | 11, hl, hn =>
        have h1 : i < cN (cNewM τ) 0 := hl
        have h2 : ¬ i < cN τ 0 := hn
        rw [cNewM_N] at h1
        have h3 : i = (cN τ 0) := by omega
        subst h3
        refine ⟨?_, by rw [adnM_11]; exact n_a1.1, by rw [adnM_11]; exact n_a1.2⟩
        show h ((adnM ad (cN τ 0) q a1 a2 a3) 11 (cN τ 0)) = some (.inl (E 0, 20, .inl (cM (cNewM τ) 0 (cN τ 0))))
        rw [adnM_11, g_a1]
        rw [show cM (cNewM τ) 0 (cN τ 0) = xfil (nI 100) (fun _ => 0) 20 from by funext d; simp [cNewM_I, cNewM_L, cNewM_K, cNewM_M, cNewM_D, cNewM_N, cNewM_N1, cNewM_N2, cNewM_N3, cNewM_N4, cNewM_N5]]
      | 12, hl, hn =>
        have h1 : i < cN (cNewM τ) 0 := hl
        have h2 : ¬ i < cN τ 0 := hn
        rw [cNewM_N] at h1
        have h3 : i = (cN τ 0) := by omega
        subst h3
        refine ⟨?_, by rw [adnM_12]; exact n_a2.1, by rw [adnM_12]; exact n_a2.2⟩
        show h ((adnM ad (cN τ 0) q a1 a2 a3) 12 (cN τ 0)) = some (.inl (E 2, 20, .inl (cM (cNewM τ) 1 (cN τ 0))))
        rw [adnM_12, g_a2]
        rw [show cM (cNewM τ) 1 (cN τ 0) = (fun _ => 0) from by funext d; simp [cNewM_I, cNewM_L, cNewM_K, cNewM_M, cNewM_D, cNewM_N, cNewM_N1, cNewM_N2, cNewM_N3, cNewM_N4, cNewM_N5]]
      | 13, hl, hn =>
        have h1 : i < cN (cNewM τ) 0 := hl
        have h2 : ¬ i < cN τ 0 := hn
        rw [cNewM_N] at h1
        have h3 : i = (cN τ 0) := by omega
        subst h3
        refine ⟨?_, by rw [adnM_13]; exact n_a3.1, by rw [adnM_13]; exact n_a3.2⟩
        show h ((adnM ad (cN τ 0) q a1 a2 a3) 13 (cN τ 0)) = some (.inl (E 1, 20, .inr (.inl (cD (cNewM τ) (cN τ 0)))))
        rw [adnM_13, g_a3]
        rw [show cD (cNewM τ) (cN τ 0) = (fun _ => 0) from by funext d; simp [cNewM_I, cNewM_L, cNewM_K, cNewM_M, cNewM_D, cNewM_N, cNewM_N1, cNewM_N2, cNewM_N3, cNewM_N4, cNewM_N5]]
      | 14, hl, hn => exact absurd (show i < cN τ 1 by have h1 : i < cN (cNewM τ) 1 := hl; simp only [cNewM_I, cNewM_L, cNewM_K, cNewM_M, cNewM_D, cNewM_N, cNewM_N1, cNewM_N2, cNewM_N3, cNewM_N4, cNewM_N5] at h1; omega) hn
      | 15, hl, hn => exact absurd (show i < cN τ 2 by have h1 : i < cN (cNewM τ) 2 := hl; simp only [cNewM_I, cNewM_L, cNewM_K, cNewM_M, cNewM_D, cNewM_N, cNewM_N1, cNewM_N2, cNewM_N3, cNewM_N4, cNewM_N5] at h1; omega) hn
      | 16, hl, hn => exact absurd (show i < cN τ 3 by have h1 : i < cN (cNewM τ) 3 := hl; simp only [cNewM_I, cNewM_L, cNewM_K, cNewM_M, cNewM_D, cNewM_N, cNewM_N1, cNewM_N2, cNewM_N3, cNewM_N4, cNewM_N5] at h1; omega) hn
      | 17, hl, hn => exact absurd (show i < cN τ 4 by have h1 : i < cN (cNewM τ) 4 := hl; simp only [cNewM_I, cNewM_L, cNewM_K, cNewM_M, cNewM_D, cNewM_N, cNewM_N1, cNewM_N2, cNewM_N3, cNewM_N4, cNewM_N5] at h1; omega) hn
      | 18, hl, hn => exact absurd hl hn
    · intro K i K' i' hl hn hl' hn' hz
      have key : ∀ K i, clive (cNewM τ) K i → ¬ clive τ K i → i = (cN τ 0) ∧ (K = 10 ∨ K = 11 ∨ K = 12 ∨ K = 13) := by
        intro K i hl hn
        match K, hl, hn with
        | 0, hl, hn => exact absurd hl hn
        | 1, hl, hn => exact absurd hl hn
        | 2, hl, hn => exact absurd hl hn
        | 3, hl, hn => exact absurd hl hn
        | 4, hl, hn => exact absurd hl hn
        | 5, hl, hn => exact absurd hl hn
        | 6, hl, hn => exact absurd hl hn
        | 7, hl, hn => exact absurd hl hn
        | 8, hl, hn => exact absurd hl hn
        | 9, hl, hn => exact absurd hl hn
        | 10, hl, hn =>
          have h1 : i < cN (cNewM τ) 0 := hl
          have h2 : ¬ i < cN τ 0 := hn
          rw [cNewM_N] at h1
          exact ⟨by omega, by simp⟩
        | 11, hl, hn =>
          have h1 : i < cN (cNewM τ) 0 := hl
          have h2 : ¬ i < cN τ 0 := hn
          rw [cNewM_N] at h1
          exact ⟨by omega, by simp⟩
        | 12, hl, hn =>
          have h1 : i < cN (cNewM τ) 0 := hl
          have h2 : ¬ i < cN τ 0 := hn
          rw [cNewM_N] at h1
          exact ⟨by omega, by simp⟩
        | 13, hl, hn =>
          have h1 : i < cN (cNewM τ) 0 := hl
          have h2 : ¬ i < cN τ 0 := hn
          rw [cNewM_N] at h1
          exact ⟨by omega, by simp⟩
        | 14, hl, hn => exact absurd (show i < cN τ 1 by have h1 : i < cN (cNewM τ) 1 := hl; simp only [cNewM_I, cNewM_L, cNewM_K, cNewM_M, cNewM_D, cNewM_N, cNewM_N1, cNewM_N2, cNewM_N3, cNewM_N4, cNewM_N5] at h1; omega) hn
        | 15, hl, hn => exact absurd (show i < cN τ 2 by have h1 : i < cN (cNewM τ) 2 := hl; simp only [cNewM_I, cNewM_L, cNewM_K, cNewM_M, cNewM_D, cNewM_N, cNewM_N1, cNewM_N2, cNewM_N3, cNewM_N4, cNewM_N5] at h1; omega) hn
        | 16, hl, hn => exact absurd (show i < cN τ 3 by have h1 : i < cN (cNewM τ) 3 := hl; simp only [cNewM_I, cNewM_L, cNewM_K, cNewM_M, cNewM_D, cNewM_N, cNewM_N1, cNewM_N2, cNewM_N3, cNewM_N4, cNewM_N5] at h1; omega) hn
        | 17, hl, hn => exact absurd (show i < cN τ 4 by have h1 : i < cN (cNewM τ) 4 := hl; simp only [cNewM_I, cNewM_L, cNewM_K, cNewM_M, cNewM_D, cNewM_N, cNewM_N1, cNewM_N2, cNewM_N3, cNewM_N4, cNewM_N5] at h1; omega) hn
        | 18, hl, hn => exact absurd hl hn
      obtain ⟨u1, u2⟩ := key K i hl hn
      obtain ⟨v1, v2⟩ := key K' i' hl' hn'
      subst u1; subst v1
      refine ⟨?_, rfl⟩
      rcases u2 with rfl | rfl | rfl | rfl <;> rcases v2 with rfl | rfl | rfl | rfl <;> first | rfl | (simp [adnM] at hz; omega)
    · intro K i hl
      match K, hl with
      | 0, hl => exact ⟨by simp [adnM], fun z => absurd rfl z⟩
      | 1, hl =>
        refine ⟨by simp [adnM], fun _ => ?_⟩
        show (.inl (E 3, 12, .inr (.inr (.inr (.inr (fa 1))))) : va_E) = (.inl (E 3, 12, .inr (.inr (.inr (.inr (fa 1))))) : va_E)
        rfl
      | 2, hl =>
        refine ⟨by simp [adnM], fun _ => ?_⟩
        show (.inl (E 4, 24, .inr (.inr (.inr (.inr (fa 2))))) : va_E) = (.inl (E 4, 24, .inr (.inr (.inr (.inr (fa 2))))) : va_E)
        rfl
      | 3, hl =>
        refine ⟨by simp [adnM], fun _ => ?_⟩
        show (.inl (E 5, 60, .inr (.inr (.inr (.inr (fa 3))))) : va_E) = (.inl (E 5, 60, .inr (.inr (.inr (.inr (fa 3))))) : va_E)
        rfl
      | 4, hl =>
        refine ⟨by simp [adnM], fun _ => ?_⟩
        show (.inl (E 6, 60, .inr (.inr (.inr (.inr (fa 4))))) : va_E) = (.inl (E 6, 60, .inr (.inr (.inr (.inr (fa 4))))) : va_E)
        rfl
      | 5, hl =>
        refine ⟨by simp [adnM], fun _ => ?_⟩
        show (.inl (E 7, 60, .inr (.inr (.inr (.inr (fa 5))))) : va_E) = (.inl (E 7, 60, .inr (.inr (.inr (.inr (fa 5))))) : va_E)
        rfl
      | 6, hl =>
        refine ⟨by simp [adnM], fun _ => ?_⟩
        show (.inl (E 8, 20, .inr (.inr (.inr (.inr (fa 6))))) : va_E) = (.inl (E 8, 20, .inr (.inr (.inr (.inr (fa 6))))) : va_E)
        rfl
      | 7, hl =>
        refine ⟨by simp [adnM], fun _ => ?_⟩
        show (.inr (4, [.ref ((adnM ad (cN τ 0) q a1 a2 a3) 8 0), .ref ((adnM ad (cN τ 0) q a1 a2 a3) 9 0)]) : va_E) = (.inr (4, [.ref (ad 8 0), .ref (ad 9 0)]) : va_E)
        simp [cNewM_I, cNewM_L, cNewM_K, cNewM_M, cNewM_D, cNewM_N, cNewM_N1, cNewM_N2, cNewM_N3, cNewM_N4, cNewM_N5, adnM]
      | 8, hl =>
        refine ⟨by simp [adnM], fun _ => ?_⟩
        show (.inl (E 0, 80, .inl (cI (cNewM τ) 38)) : va_E) = (.inl (E 0, 80, .inl (cI τ 38)) : va_E)
        rw [show cI (cNewM τ) 38 = cI τ 38 from by funext b; simp [cNewM_I, cNewM_L, cNewM_K, cNewM_M, cNewM_D, cNewM_N, cNewM_N1, cNewM_N2, cNewM_N3, cNewM_N4, cNewM_N5]]
      | 9, hl =>
        refine ⟨by simp [adnM], fun _ => ?_⟩
        show (.inl (E 0, 80, .inl (cI (cNewM τ) 39)) : va_E) = (.inl (E 0, 80, .inl (cI τ 39)) : va_E)
        rw [show cI (cNewM τ) 39 = cI τ 39 from by funext b; simp [cNewM_I, cNewM_L, cNewM_K, cNewM_M, cNewM_D, cNewM_N, cNewM_N1, cNewM_N2, cNewM_N3, cNewM_N4, cNewM_N5]]
      | 10, hl =>
        have hl2 : i < cN τ 0 := hl
        have h8 : ¬ i = cN τ 0 := by omega
        refine ⟨by simp [adnM, h8], fun _ => ?_⟩
        show (.inr (3, [.ref ((adnM ad (cN τ 0) q a1 a2 a3) 11 i), .ref ((adnM ad (cN τ 0) q a1 a2 a3) 12 i), .ref ((adnM ad (cN τ 0) q a1 a2 a3) 13 i), .long (cL (cNewM τ) 20 i), .int (cI (cNewM τ) 20 i)]) : va_E) = (.inr (3, [.ref (ad 11 i), .ref (ad 12 i), .ref (ad 13 i), .long (cL τ 20 i), .int (cI τ 20 i)]) : va_E)
        simp [cNewM_I, cNewM_L, cNewM_K, cNewM_M, cNewM_D, cNewM_N, cNewM_N1, cNewM_N2, cNewM_N3, cNewM_N4, cNewM_N5, adnM, h8]
      | 11, hl =>
        have hl2 : i < cN τ 0 := hl
        have h8 : ¬ i = cN τ 0 := by omega
        refine ⟨by simp [adnM, h8], fun _ => ?_⟩
        show (.inl (E 0, 20, .inl (cM (cNewM τ) 0 i)) : va_E) = (.inl (E 0, 20, .inl (cM τ 0 i)) : va_E)
        rw [show cM (cNewM τ) 0 i = cM τ 0 i from by funext d; simp [cNewM_I, cNewM_L, cNewM_K, cNewM_M, cNewM_D, cNewM_N, cNewM_N1, cNewM_N2, cNewM_N3, cNewM_N4, cNewM_N5, h8]]
      | 12, hl =>
        have hl2 : i < cN τ 0 := hl
        have h8 : ¬ i = cN τ 0 := by omega
        refine ⟨by simp [adnM, h8], fun _ => ?_⟩
        show (.inl (E 2, 20, .inl (cM (cNewM τ) 1 i)) : va_E) = (.inl (E 2, 20, .inl (cM τ 1 i)) : va_E)
        rw [show cM (cNewM τ) 1 i = cM τ 1 i from by funext d; simp [cNewM_I, cNewM_L, cNewM_K, cNewM_M, cNewM_D, cNewM_N, cNewM_N1, cNewM_N2, cNewM_N3, cNewM_N4, cNewM_N5, h8]]
      | 13, hl =>
        have hl2 : i < cN τ 0 := hl
        have h8 : ¬ i = cN τ 0 := by omega
        refine ⟨by simp [adnM, h8], fun _ => ?_⟩
        show (.inl (E 1, 20, .inr (.inl (cD (cNewM τ) i))) : va_E) = (.inl (E 1, 20, .inr (.inl (cD τ i))) : va_E)
        rw [show cD (cNewM τ) i = cD τ i from by funext d; simp [cNewM_I, cNewM_L, cNewM_K, cNewM_M, cNewM_D, cNewM_N, cNewM_N1, cNewM_N2, cNewM_N3, cNewM_N4, cNewM_N5, h8]]
      | 14, hl =>
        have h9 : ¬ cK τ 10 i = cN τ 0 := by have := hW.2.1 i hl; omega
        refine ⟨by simp [adnM], fun _ => ?_⟩
        show (.inr (5, [.ref ((adnM ad (cN τ 0) q a1 a2 a3) 10 (cK (cNewM τ) 10 i)), .int (cI (cNewM τ) 21 i), va_rf (if cK (cNewM τ) 14 i = 0 then none else some ((adnM ad (cN τ 0) q a1 a2 a3) 15 (cK (cNewM τ) 14 i - 1))), .long (cL (cNewM τ) 21 i)]) : va_E) = (.inr (5, [.ref (ad 10 (cK τ 10 i)), .int (cI τ 21 i), va_rf (if cK τ 14 i = 0 then none else some (ad 15 (cK τ 14 i - 1))), .long (cL τ 21 i)]) : va_E)
        simp [cNewM_I, cNewM_L, cNewM_K, cNewM_M, cNewM_D, cNewM_N, cNewM_N1, cNewM_N2, cNewM_N3, cNewM_N4, cNewM_N5, adnM, h9]
      | 15, hl =>
        refine ⟨by simp [adnM], fun _ => ?_⟩
        show (.inr (1, [.ref ((adnM ad (cN τ 0) q a1 a2 a3) 14 (cK (cNewM τ) 11 i)), .int (cI (cNewM τ) 22 i), .int (cI (cNewM τ) 23 i)]) : va_E) = (.inr (1, [.ref (ad 14 (cK τ 11 i)), .int (cI τ 22 i), .int (cI τ 23 i)]) : va_E)
        simp [cNewM_I, cNewM_L, cNewM_K, cNewM_M, cNewM_D, cNewM_N, cNewM_N1, cNewM_N2, cNewM_N3, cNewM_N4, cNewM_N5, adnM]
      | 16, hl =>
        refine ⟨by simp [adnM], fun _ => ?_⟩
        show (.inr (0, [.ref ((adnM ad (cN τ 0) q a1 a2 a3) 14 (cK (cNewM τ) 12 i)), .int (nI (cK (cNewM τ) 15 i)), .ref ((adnM ad (cN τ 0) q a1 a2 a3) 17 (cK (cNewM τ) 13 i)), .int (cI (cNewM τ) 24 i), .int (cI (cNewM τ) 25 i), .int (cI (cNewM τ) 26 i), .int (cI (cNewM τ) 27 i), .int (cI (cNewM τ) 28 i)]) : va_E) = (.inr (0, [.ref (ad 14 (cK τ 12 i)), .int (nI (cK τ 15 i)), .ref (ad 17 (cK τ 13 i)), .int (cI τ 24 i), .int (cI τ 25 i), .int (cI τ 26 i), .int (cI τ 27 i), .int (cI τ 28 i)]) : va_E)
        simp [cNewM_I, cNewM_L, cNewM_K, cNewM_M, cNewM_D, cNewM_N, cNewM_N1, cNewM_N2, cNewM_N3, cNewM_N4, cNewM_N5, adnM]
      | 17, hl =>
        refine ⟨by simp [adnM], fun _ => ?_⟩
        show (.inr (2, [.int (cI (cNewM τ) 29 i), .int (nI (cK (cNewM τ) 16 i)), .int (cI (cNewM τ) 30 i)]) : va_E) = (.inr (2, [.int (cI τ 29 i), .int (nI (cK τ 16 i)), .int (cI τ 30 i)]) : va_E)
        simp [cNewM_I, cNewM_L, cNewM_K, cNewM_M, cNewM_D, cNewM_N, cNewM_N1, cNewM_N2, cNewM_N3, cNewM_N4, cNewM_N5, adnM]
      | 18, hl =>
        refine ⟨by simp [adnM], fun _ => ?_⟩
        show (.inr (6, [.int (cI (cNewM τ) 31 i), .int (cI (cNewM τ) 32 i), .int (cI (cNewM τ) 33 i), .int (cI (cNewM τ) 34 i), .int (cI (cNewM τ) 35 i), .int (cI (cNewM τ) 36 i), .int (cI (cNewM τ) 37 i)]) : va_E) = (.inr (6, [.int (cI τ 31 i), .int (cI τ 32 i), .int (cI τ 33 i), .int (cI τ 34 i), .int (cI τ 35 i), .int (cI τ 36 i), .int (cI τ 37 i)]) : va_E)
        simp [cNewM_I, cNewM_L, cNewM_K, cNewM_M, cNewM_D, cNewM_N, cNewM_N1, cNewM_N2, cNewM_N3, cNewM_N4, cNewM_N5, adnM]
    · obtain ⟨f1, f2, f3, f4, f5, f6⟩ := hR.2.2.2.2
      refine ⟨fun b hb => ?_, fun b hb => ?_, fun b hb => ?_, fun b hb => ?_, fun b hb => ?_, fun b hb => ?_⟩
      · rw [cNewM_N] at hb
        by_cases hbj : b = (cN τ 0)
        · subst hbj; rw [adnM_10]; exact hj
        · rw [adnM_o hbj]; exact f1 b (by omega)
      · rw [cNewM_N1] at hb; rw [adnM_k (by decide)]; exact f2 b hb
      · rw [cNewM_N2] at hb; rw [adnM_k (by decide)]; exact f3 b hb
      · rw [cNewM_N3] at hb; rw [adnM_k (by decide)]; exact f4 b hb
      · rw [cNewM_N4] at hb; rw [adnM_k (by decide)]; exact f5 b hb
      · rw [adnM_k (by decide)]; exact f6 b hb
  · intro K i hl
    match K, hl with
    | 0, hl => exact adnM_k (by decide)
    | 1, hl => exact adnM_k (by decide)
    | 2, hl => exact adnM_k (by decide)
    | 3, hl => exact adnM_k (by decide)
    | 4, hl => exact adnM_k (by decide)
    | 5, hl => exact adnM_k (by decide)
    | 6, hl => exact adnM_k (by decide)
    | 7, hl => exact adnM_k (by decide)
    | 8, hl => exact adnM_k (by decide)
    | 9, hl => exact adnM_k (by decide)
    | 10, hl => exact adnM_o (by have h1 : i < cN τ 0 := hl; omega)
    | 11, hl => exact adnM_o (by have h1 : i < cN τ 0 := hl; omega)
    | 12, hl => exact adnM_o (by have h1 : i < cN τ 0 := hl; omega)
    | 13, hl => exact adnM_o (by have h1 : i < cN τ 0 := hl; omega)
    | 14, hl => exact adnM_k (by decide)
    | 15, hl => exact adnM_k (by decide)
    | 16, hl => exact adnM_k (by decide)
    | 17, hl => exact adnM_k (by decide)
    | 18, hl => exact adnM_k (by decide)
def adnS (ad : Nat → Nat → Nat) (j q : Nat) (K i : Nat) : Nat := if K = 14 ∧ i = j then q else ad K i
theorem adnS_14 {ad : Nat → Nat → Nat} {j q : Nat} : adnS ad j q 14 j = q := by simp [adnS]
theorem adnS_o {ad : Nat → Nat → Nat} {j q K i : Nat} (h : i ≠ j) : adnS ad j q K i = ad K i := by simp [adnS, h]
theorem adnS_k {ad : Nat → Nat → Nat} {j q K i : Nat} (h : K ≠ 14) : adnS ad j q K i = ad K i := by simp [adnS, h]
set_option maxHeartbeats 4000000 in
theorem RC.gS {E : Nat → ClassId} {Pr : Nat → Prop} {τ : CT} {ad : Nat → Nat → Nat} {fa : Nat → Nat → Option Nat} {h : XW} (hR : RC E Pr τ ad fa h) (hW : CW τ) {o1 : Nat} {t1 : Int32} {q : Nat} (hj : fa 2 (cN τ 1) = some q) (g_q : h q = some (.inr (5, [.ref (ad 10 o1), .int t1, .null, .long 0]))) (n_q : (∀ K i, clive τ K i → ad K i ≠ q) ∧ ¬ Pr q) (ho : o1 < cN τ 0) : ∃ ad1 : Nat → Nat → Nat, RC E Pr (cNewS τ o1 t1) ad1 fa (hset h (ad 0 0) (.inr (7, [.ref (ad 1 0), .ref (ad 2 0), .ref (ad 3 0), .ref (ad 4 0), .ref (ad 5 0), .ref (ad 6 0), .ref (ad 7 0), .int (nI (cN τ 0)), .int (nI (cN τ 1 + 1)), .int (nI (cN τ 2)), .int (nI (cN τ 3)), .int (nI (cN τ 4)), .int (nI (cN τ 5)), .long (cL τ 0 0)]))) ∧ (∀ K i, clive τ K i → ad1 K i = ad K i) ∧ ad1 14 (cN τ 1) = q := by
  refine ⟨(adnS ad (cN τ 1) q), ?_, ?_, adnS_14⟩
  · refine hR.grow (τ1 := (cNewS τ o1 t1)) ?_ ?_ ?_ ?_ ?_ ?_
    · show _ = (.inr (7, [.ref ((adnS ad (cN τ 1) q) 1 0), .ref ((adnS ad (cN τ 1) q) 2 0), .ref ((adnS ad (cN τ 1) q) 3 0), .ref ((adnS ad (cN τ 1) q) 4 0), .ref ((adnS ad (cN τ 1) q) 5 0), .ref ((adnS ad (cN τ 1) q) 6 0), .ref ((adnS ad (cN τ 1) q) 7 0), .int (nI (cN (cNewS τ o1 t1) 0)), .int (nI (cN (cNewS τ o1 t1) 1)), .int (nI (cN (cNewS τ o1 t1) 2)), .int (nI (cN (cNewS τ o1 t1) 3)), .int (nI (cN (cNewS τ o1 t1) 4)), .int (nI (cN (cNewS τ o1 t1) 5)), .long (cL (cNewS τ o1 t1) 0 0)]) : va_E)
      simp [cNewS_I, cNewS_L, cNewS_K, cNewS_M, cNewS_D, cNewS_N, cNewS_N0, cNewS_N2, cNewS_N3, cNewS_N4, cNewS_N5, adnS]
    · intro K i hl
      match K, hl with
      | 0, hl => exact hl
      | 1, hl => exact hl
      | 2, hl => exact hl
      | 3, hl => exact hl
      | 4, hl => exact hl
      | 5, hl => exact hl
      | 6, hl => exact hl
      | 7, hl => exact hl
      | 8, hl => exact hl
      | 9, hl => exact hl
      | 10, hl => exact (show i < cN (cNewS τ o1 t1) 0 by have h1 : i < cN τ 0 := hl; simp only [cNewS_I, cNewS_L, cNewS_K, cNewS_M, cNewS_D, cNewS_N, cNewS_N0, cNewS_N2, cNewS_N3, cNewS_N4, cNewS_N5]; omega)
      | 11, hl => exact (show i < cN (cNewS τ o1 t1) 0 by have h1 : i < cN τ 0 := hl; simp only [cNewS_I, cNewS_L, cNewS_K, cNewS_M, cNewS_D, cNewS_N, cNewS_N0, cNewS_N2, cNewS_N3, cNewS_N4, cNewS_N5]; omega)
      | 12, hl => exact (show i < cN (cNewS τ o1 t1) 0 by have h1 : i < cN τ 0 := hl; simp only [cNewS_I, cNewS_L, cNewS_K, cNewS_M, cNewS_D, cNewS_N, cNewS_N0, cNewS_N2, cNewS_N3, cNewS_N4, cNewS_N5]; omega)
      | 13, hl => exact (show i < cN (cNewS τ o1 t1) 0 by have h1 : i < cN τ 0 := hl; simp only [cNewS_I, cNewS_L, cNewS_K, cNewS_M, cNewS_D, cNewS_N, cNewS_N0, cNewS_N2, cNewS_N3, cNewS_N4, cNewS_N5]; omega)
      | 14, hl => exact (show i < cN (cNewS τ o1 t1) 1 by have h1 : i < cN τ 1 := hl; simp only [cNewS_I, cNewS_L, cNewS_K, cNewS_M, cNewS_D, cNewS_N, cNewS_N0, cNewS_N2, cNewS_N3, cNewS_N4, cNewS_N5]; omega)
      | 15, hl => exact (show i < cN (cNewS τ o1 t1) 2 by have h1 : i < cN τ 2 := hl; simp only [cNewS_I, cNewS_L, cNewS_K, cNewS_M, cNewS_D, cNewS_N, cNewS_N0, cNewS_N2, cNewS_N3, cNewS_N4, cNewS_N5]; omega)
      | 16, hl => exact (show i < cN (cNewS τ o1 t1) 3 by have h1 : i < cN τ 3 := hl; simp only [cNewS_I, cNewS_L, cNewS_K, cNewS_M, cNewS_D, cNewS_N, cNewS_N0, cNewS_N2, cNewS_N3, cNewS_N4, cNewS_N5]; omega)
      | 17, hl => exact (show i < cN (cNewS τ o1 t1) 4 by have h1 : i < cN τ 4 := hl; simp only [cNewS_I, cNewS_L, cNewS_K, cNewS_M, cNewS_D, cNewS_N, cNewS_N0, cNewS_N2, cNewS_N3, cNewS_N4, cNewS_N5]; omega)
      | 18, hl => exact hl
    · intro K i hl hn
      match K, hl, hn with
      | 0, hl, hn => exact absurd hl hn
      | 1, hl, hn => exact absurd hl hn
      | 2, hl, hn => exact absurd hl hn
      | 3, hl, hn => exact absurd hl hn
      | 4, hl, hn => exact absurd hl hn
      | 5, hl, hn => exact absurd hl hn
      | 6, hl, hn => exact absurd hl hn
      | 7, hl, hn => exact absurd hl hn
      | 8, hl, hn => exact absurd hl hn
      | 9, hl, hn => exact absurd hl hn
      | 10, hl, hn => exact absurd (show i < cN τ 0 by have h1 : i < cN (cNewS τ o1 t1) 0 := hl; simp only [cNewS_I, cNewS_L, cNewS_K, cNewS_M, cNewS_D, cNewS_N, cNewS_N0, cNewS_N2, cNewS_N3, cNewS_N4, cNewS_N5] at h1; omega) hn
      | 11, hl, hn => exact absurd (show i < cN τ 0 by have h1 : i < cN (cNewS τ o1 t1) 0 := hl; simp only [cNewS_I, cNewS_L, cNewS_K, cNewS_M, cNewS_D, cNewS_N, cNewS_N0, cNewS_N2, cNewS_N3, cNewS_N4, cNewS_N5] at h1; omega) hn
      | 12, hl, hn => exact absurd (show i < cN τ 0 by have h1 : i < cN (cNewS τ o1 t1) 0 := hl; simp only [cNewS_I, cNewS_L, cNewS_K, cNewS_M, cNewS_D, cNewS_N, cNewS_N0, cNewS_N2, cNewS_N3, cNewS_N4, cNewS_N5] at h1; omega) hn
      | 13, hl, hn => exact absurd (show i < cN τ 0 by have h1 : i < cN (cNewS τ o1 t1) 0 := hl; simp only [cNewS_I, cNewS_L, cNewS_K, cNewS_M, cNewS_D, cNewS_N, cNewS_N0, cNewS_N2, cNewS_N3, cNewS_N4, cNewS_N5] at h1; omega) hn
      | 14, hl, hn =>
        have h1 : i < cN (cNewS τ o1 t1) 1 := hl
        have h2 : ¬ i < cN τ 1 := hn
        rw [cNewS_N] at h1
        have h3 : i = (cN τ 1) := by omega
        subst h3
        refine ⟨?_, by rw [adnS_14]; exact n_q.1, by rw [adnS_14]; exact n_q.2⟩
        show h ((adnS ad (cN τ 1) q) 14 (cN τ 1)) = some (.inr (5, [.ref ((adnS ad (cN τ 1) q) 10 (cK (cNewS τ o1 t1) 10 (cN τ 1))), .int (cI (cNewS τ o1 t1) 21 (cN τ 1)), va_rf (if cK (cNewS τ o1 t1) 14 (cN τ 1) = 0 then none else some ((adnS ad (cN τ 1) q) 15 (cK (cNewS τ o1 t1) 14 (cN τ 1) - 1))), .long (cL (cNewS τ o1 t1) 21 (cN τ 1))]))
        rw [adnS_14, g_q]
        simp [cNewS_I, cNewS_L, cNewS_K, cNewS_M, cNewS_D, cNewS_N, cNewS_N0, cNewS_N2, cNewS_N3, cNewS_N4, cNewS_N5, adnS, va_rf]
      | 15, hl, hn => exact absurd (show i < cN τ 2 by have h1 : i < cN (cNewS τ o1 t1) 2 := hl; simp only [cNewS_I, cNewS_L, cNewS_K, cNewS_M, cNewS_D, cNewS_N, cNewS_N0, cNewS_N2, cNewS_N3, cNewS_N4, cNewS_N5] at h1; omega) hn
      | 16, hl, hn => exact absurd (show i < cN τ 3 by have h1 : i < cN (cNewS τ o1 t1) 3 := hl; simp only [cNewS_I, cNewS_L, cNewS_K, cNewS_M, cNewS_D, cNewS_N, cNewS_N0, cNewS_N2, cNewS_N3, cNewS_N4, cNewS_N5] at h1; omega) hn
      | 17, hl, hn => exact absurd (show i < cN τ 4 by have h1 : i < cN (cNewS τ o1 t1) 4 := hl; simp only [cNewS_I, cNewS_L, cNewS_K, cNewS_M, cNewS_D, cNewS_N, cNewS_N0, cNewS_N2, cNewS_N3, cNewS_N4, cNewS_N5] at h1; omega) hn
      | 18, hl, hn => exact absurd hl hn
    · intro K i K' i' hl hn hl' hn' hz
      have key : ∀ K i, clive (cNewS τ o1 t1) K i → ¬ clive τ K i → i = (cN τ 1) ∧ (K = 14) := by
        intro K i hl hn
        match K, hl, hn with
        | 0, hl, hn => exact absurd hl hn
        | 1, hl, hn => exact absurd hl hn
        | 2, hl, hn => exact absurd hl hn
        | 3, hl, hn => exact absurd hl hn
        | 4, hl, hn => exact absurd hl hn
        | 5, hl, hn => exact absurd hl hn
        | 6, hl, hn => exact absurd hl hn
        | 7, hl, hn => exact absurd hl hn
        | 8, hl, hn => exact absurd hl hn
        | 9, hl, hn => exact absurd hl hn
        | 10, hl, hn => exact absurd (show i < cN τ 0 by have h1 : i < cN (cNewS τ o1 t1) 0 := hl; simp only [cNewS_I, cNewS_L, cNewS_K, cNewS_M, cNewS_D, cNewS_N, cNewS_N0, cNewS_N2, cNewS_N3, cNewS_N4, cNewS_N5] at h1; omega) hn
        | 11, hl, hn => exact absurd (show i < cN τ 0 by have h1 : i < cN (cNewS τ o1 t1) 0 := hl; simp only [cNewS_I, cNewS_L, cNewS_K, cNewS_M, cNewS_D, cNewS_N, cNewS_N0, cNewS_N2, cNewS_N3, cNewS_N4, cNewS_N5] at h1; omega) hn
        | 12, hl, hn => exact absurd (show i < cN τ 0 by have h1 : i < cN (cNewS τ o1 t1) 0 := hl; simp only [cNewS_I, cNewS_L, cNewS_K, cNewS_M, cNewS_D, cNewS_N, cNewS_N0, cNewS_N2, cNewS_N3, cNewS_N4, cNewS_N5] at h1; omega) hn
        | 13, hl, hn => exact absurd (show i < cN τ 0 by have h1 : i < cN (cNewS τ o1 t1) 0 := hl; simp only [cNewS_I, cNewS_L, cNewS_K, cNewS_M, cNewS_D, cNewS_N, cNewS_N0, cNewS_N2, cNewS_N3, cNewS_N4, cNewS_N5] at h1; omega) hn
        | 14, hl, hn =>
          have h1 : i < cN (cNewS τ o1 t1) 1 := hl
          have h2 : ¬ i < cN τ 1 := hn
          rw [cNewS_N] at h1
          exact ⟨by omega, by simp⟩
        | 15, hl, hn => exact absurd (show i < cN τ 2 by have h1 : i < cN (cNewS τ o1 t1) 2 := hl; simp only [cNewS_I, cNewS_L, cNewS_K, cNewS_M, cNewS_D, cNewS_N, cNewS_N0, cNewS_N2, cNewS_N3, cNewS_N4, cNewS_N5] at h1; omega) hn
        | 16, hl, hn => exact absurd (show i < cN τ 3 by have h1 : i < cN (cNewS τ o1 t1) 3 := hl; simp only [cNewS_I, cNewS_L, cNewS_K, cNewS_M, cNewS_D, cNewS_N, cNewS_N0, cNewS_N2, cNewS_N3, cNewS_N4, cNewS_N5] at h1; omega) hn
        | 17, hl, hn => exact absurd (show i < cN τ 4 by have h1 : i < cN (cNewS τ o1 t1) 4 := hl; simp only [cNewS_I, cNewS_L, cNewS_K, cNewS_M, cNewS_D, cNewS_N, cNewS_N0, cNewS_N2, cNewS_N3, cNewS_N4, cNewS_N5] at h1; omega) hn
        | 18, hl, hn => exact absurd hl hn
      obtain ⟨u1, u2⟩ := key K i hl hn
      obtain ⟨v1, v2⟩ := key K' i' hl' hn'
      subst u1; subst v1
      refine ⟨?_, rfl⟩
      rcases u2 with rfl <;> rcases v2 with rfl <;> first | rfl | (simp [adnS] at hz; omega)
    · intro K i hl
      match K, hl with
      | 0, hl => exact ⟨by simp [adnS], fun z => absurd rfl z⟩
      | 1, hl =>
        refine ⟨by simp [adnS], fun _ => ?_⟩
        show (.inl (E 3, 12, .inr (.inr (.inr (.inr (fa 1))))) : va_E) = (.inl (E 3, 12, .inr (.inr (.inr (.inr (fa 1))))) : va_E)
        rfl
      | 2, hl =>
        refine ⟨by simp [adnS], fun _ => ?_⟩
        show (.inl (E 4, 24, .inr (.inr (.inr (.inr (fa 2))))) : va_E) = (.inl (E 4, 24, .inr (.inr (.inr (.inr (fa 2))))) : va_E)
        rfl
      | 3, hl =>
        refine ⟨by simp [adnS], fun _ => ?_⟩
        show (.inl (E 5, 60, .inr (.inr (.inr (.inr (fa 3))))) : va_E) = (.inl (E 5, 60, .inr (.inr (.inr (.inr (fa 3))))) : va_E)
        rfl
      | 4, hl =>
        refine ⟨by simp [adnS], fun _ => ?_⟩
        show (.inl (E 6, 60, .inr (.inr (.inr (.inr (fa 4))))) : va_E) = (.inl (E 6, 60, .inr (.inr (.inr (.inr (fa 4))))) : va_E)
        rfl
      | 5, hl =>
        refine ⟨by simp [adnS], fun _ => ?_⟩
        show (.inl (E 7, 60, .inr (.inr (.inr (.inr (fa 5))))) : va_E) = (.inl (E 7, 60, .inr (.inr (.inr (.inr (fa 5))))) : va_E)
        rfl
      | 6, hl =>
        refine ⟨by simp [adnS], fun _ => ?_⟩
        show (.inl (E 8, 20, .inr (.inr (.inr (.inr (fa 6))))) : va_E) = (.inl (E 8, 20, .inr (.inr (.inr (.inr (fa 6))))) : va_E)
        rfl
      | 7, hl =>
        refine ⟨by simp [adnS], fun _ => ?_⟩
        show (.inr (4, [.ref ((adnS ad (cN τ 1) q) 8 0), .ref ((adnS ad (cN τ 1) q) 9 0)]) : va_E) = (.inr (4, [.ref (ad 8 0), .ref (ad 9 0)]) : va_E)
        simp [cNewS_I, cNewS_L, cNewS_K, cNewS_M, cNewS_D, cNewS_N, cNewS_N0, cNewS_N2, cNewS_N3, cNewS_N4, cNewS_N5, adnS]
      | 8, hl =>
        refine ⟨by simp [adnS], fun _ => ?_⟩
        show (.inl (E 0, 80, .inl (cI (cNewS τ o1 t1) 38)) : va_E) = (.inl (E 0, 80, .inl (cI τ 38)) : va_E)
        rw [show cI (cNewS τ o1 t1) 38 = cI τ 38 from by funext b; simp [cNewS_I, cNewS_L, cNewS_K, cNewS_M, cNewS_D, cNewS_N, cNewS_N0, cNewS_N2, cNewS_N3, cNewS_N4, cNewS_N5]]
      | 9, hl =>
        refine ⟨by simp [adnS], fun _ => ?_⟩
        show (.inl (E 0, 80, .inl (cI (cNewS τ o1 t1) 39)) : va_E) = (.inl (E 0, 80, .inl (cI τ 39)) : va_E)
        rw [show cI (cNewS τ o1 t1) 39 = cI τ 39 from by funext b; simp [cNewS_I, cNewS_L, cNewS_K, cNewS_M, cNewS_D, cNewS_N, cNewS_N0, cNewS_N2, cNewS_N3, cNewS_N4, cNewS_N5]]
      | 10, hl =>
        refine ⟨by simp [adnS], fun _ => ?_⟩
        show (.inr (3, [.ref ((adnS ad (cN τ 1) q) 11 i), .ref ((adnS ad (cN τ 1) q) 12 i), .ref ((adnS ad (cN τ 1) q) 13 i), .long (cL (cNewS τ o1 t1) 20 i), .int (cI (cNewS τ o1 t1) 20 i)]) : va_E) = (.inr (3, [.ref (ad 11 i), .ref (ad 12 i), .ref (ad 13 i), .long (cL τ 20 i), .int (cI τ 20 i)]) : va_E)
        simp [cNewS_I, cNewS_L, cNewS_K, cNewS_M, cNewS_D, cNewS_N, cNewS_N0, cNewS_N2, cNewS_N3, cNewS_N4, cNewS_N5, adnS]
      | 11, hl =>
        refine ⟨by simp [adnS], fun _ => ?_⟩
        show (.inl (E 0, 20, .inl (cM (cNewS τ o1 t1) 0 i)) : va_E) = (.inl (E 0, 20, .inl (cM τ 0 i)) : va_E)
        rw [show cM (cNewS τ o1 t1) 0 i = cM τ 0 i from by funext d; simp [cNewS_I, cNewS_L, cNewS_K, cNewS_M, cNewS_D, cNewS_N, cNewS_N0, cNewS_N2, cNewS_N3, cNewS_N4, cNewS_N5]]
      | 12, hl =>
        refine ⟨by simp [adnS], fun _ => ?_⟩
        show (.inl (E 2, 20, .inl (cM (cNewS τ o1 t1) 1 i)) : va_E) = (.inl (E 2, 20, .inl (cM τ 1 i)) : va_E)
        rw [show cM (cNewS τ o1 t1) 1 i = cM τ 1 i from by funext d; simp [cNewS_I, cNewS_L, cNewS_K, cNewS_M, cNewS_D, cNewS_N, cNewS_N0, cNewS_N2, cNewS_N3, cNewS_N4, cNewS_N5]]
      | 13, hl =>
        refine ⟨by simp [adnS], fun _ => ?_⟩
        show (.inl (E 1, 20, .inr (.inl (cD (cNewS τ o1 t1) i))) : va_E) = (.inl (E 1, 20, .inr (.inl (cD τ i))) : va_E)
        rw [show cD (cNewS τ o1 t1) i = cD τ i from by funext d; simp [cNewS_I, cNewS_L, cNewS_K, cNewS_M, cNewS_D, cNewS_N, cNewS_N0, cNewS_N2, cNewS_N3, cNewS_N4, cNewS_N5]]
      | 14, hl =>
        have hl2 : i < cN τ 1 := hl
        have h8 : ¬ i = cN τ 1 := by omega
        refine ⟨by simp [adnS, h8], fun _ => ?_⟩
        show (.inr (5, [.ref ((adnS ad (cN τ 1) q) 10 (cK (cNewS τ o1 t1) 10 i)), .int (cI (cNewS τ o1 t1) 21 i), va_rf (if cK (cNewS τ o1 t1) 14 i = 0 then none else some ((adnS ad (cN τ 1) q) 15 (cK (cNewS τ o1 t1) 14 i - 1))), .long (cL (cNewS τ o1 t1) 21 i)]) : va_E) = (.inr (5, [.ref (ad 10 (cK τ 10 i)), .int (cI τ 21 i), va_rf (if cK τ 14 i = 0 then none else some (ad 15 (cK τ 14 i - 1))), .long (cL τ 21 i)]) : va_E)
        simp [cNewS_I, cNewS_L, cNewS_K, cNewS_M, cNewS_D, cNewS_N, cNewS_N0, cNewS_N2, cNewS_N3, cNewS_N4, cNewS_N5, adnS, h8]
      | 15, hl =>
        have h9 : ¬ cK τ 11 i = cN τ 1 := by have := hW.2.2.1 i hl; omega
        refine ⟨by simp [adnS], fun _ => ?_⟩
        show (.inr (1, [.ref ((adnS ad (cN τ 1) q) 14 (cK (cNewS τ o1 t1) 11 i)), .int (cI (cNewS τ o1 t1) 22 i), .int (cI (cNewS τ o1 t1) 23 i)]) : va_E) = (.inr (1, [.ref (ad 14 (cK τ 11 i)), .int (cI τ 22 i), .int (cI τ 23 i)]) : va_E)
        simp [cNewS_I, cNewS_L, cNewS_K, cNewS_M, cNewS_D, cNewS_N, cNewS_N0, cNewS_N2, cNewS_N3, cNewS_N4, cNewS_N5, adnS, h9]
      | 16, hl =>
        have h9 : ¬ cK τ 12 i = cN τ 1 := by have := hW.2.2.2.1 i hl; omega
        refine ⟨by simp [adnS], fun _ => ?_⟩
        show (.inr (0, [.ref ((adnS ad (cN τ 1) q) 14 (cK (cNewS τ o1 t1) 12 i)), .int (nI (cK (cNewS τ o1 t1) 15 i)), .ref ((adnS ad (cN τ 1) q) 17 (cK (cNewS τ o1 t1) 13 i)), .int (cI (cNewS τ o1 t1) 24 i), .int (cI (cNewS τ o1 t1) 25 i), .int (cI (cNewS τ o1 t1) 26 i), .int (cI (cNewS τ o1 t1) 27 i), .int (cI (cNewS τ o1 t1) 28 i)]) : va_E) = (.inr (0, [.ref (ad 14 (cK τ 12 i)), .int (nI (cK τ 15 i)), .ref (ad 17 (cK τ 13 i)), .int (cI τ 24 i), .int (cI τ 25 i), .int (cI τ 26 i), .int (cI τ 27 i), .int (cI τ 28 i)]) : va_E)
        simp [cNewS_I, cNewS_L, cNewS_K, cNewS_M, cNewS_D, cNewS_N, cNewS_N0, cNewS_N2, cNewS_N3, cNewS_N4, cNewS_N5, adnS, h9]
      | 17, hl =>
        refine ⟨by simp [adnS], fun _ => ?_⟩
        show (.inr (2, [.int (cI (cNewS τ o1 t1) 29 i), .int (nI (cK (cNewS τ o1 t1) 16 i)), .int (cI (cNewS τ o1 t1) 30 i)]) : va_E) = (.inr (2, [.int (cI τ 29 i), .int (nI (cK τ 16 i)), .int (cI τ 30 i)]) : va_E)
        simp [cNewS_I, cNewS_L, cNewS_K, cNewS_M, cNewS_D, cNewS_N, cNewS_N0, cNewS_N2, cNewS_N3, cNewS_N4, cNewS_N5, adnS]
      | 18, hl =>
        refine ⟨by simp [adnS], fun _ => ?_⟩
        show (.inr (6, [.int (cI (cNewS τ o1 t1) 31 i), .int (cI (cNewS τ o1 t1) 32 i), .int (cI (cNewS τ o1 t1) 33 i), .int (cI (cNewS τ o1 t1) 34 i), .int (cI (cNewS τ o1 t1) 35 i), .int (cI (cNewS τ o1 t1) 36 i), .int (cI (cNewS τ o1 t1) 37 i)]) : va_E) = (.inr (6, [.int (cI τ 31 i), .int (cI τ 32 i), .int (cI τ 33 i), .int (cI τ 34 i), .int (cI τ 35 i), .int (cI τ 36 i), .int (cI τ 37 i)]) : va_E)
        simp [cNewS_I, cNewS_L, cNewS_K, cNewS_M, cNewS_D, cNewS_N, cNewS_N0, cNewS_N2, cNewS_N3, cNewS_N4, cNewS_N5, adnS]
    · obtain ⟨f1, f2, f3, f4, f5, f6⟩ := hR.2.2.2.2
      refine ⟨fun b hb => ?_, fun b hb => ?_, fun b hb => ?_, fun b hb => ?_, fun b hb => ?_, fun b hb => ?_⟩
      · rw [cNewS_N0] at hb; rw [adnS_k (by decide)]; exact f1 b hb
      · rw [cNewS_N] at hb
        by_cases hbj : b = (cN τ 1)
        · subst hbj; rw [adnS_14]; exact hj
        · rw [adnS_o hbj]; exact f2 b (by omega)
      · rw [cNewS_N2] at hb; rw [adnS_k (by decide)]; exact f3 b hb
      · rw [cNewS_N3] at hb; rw [adnS_k (by decide)]; exact f4 b hb
      · rw [cNewS_N4] at hb; rw [adnS_k (by decide)]; exact f5 b hb
      · rw [adnS_k (by decide)]; exact f6 b hb
  · intro K i hl
    match K, hl with
    | 0, hl => exact adnS_k (by decide)
    | 1, hl => exact adnS_k (by decide)
    | 2, hl => exact adnS_k (by decide)
    | 3, hl => exact adnS_k (by decide)
    | 4, hl => exact adnS_k (by decide)
    | 5, hl => exact adnS_k (by decide)
    | 6, hl => exact adnS_k (by decide)
    | 7, hl => exact adnS_k (by decide)
    | 8, hl => exact adnS_k (by decide)
    | 9, hl => exact adnS_k (by decide)
    | 10, hl => exact adnS_k (by decide)
    | 11, hl => exact adnS_k (by decide)
    | 12, hl => exact adnS_k (by decide)
    | 13, hl => exact adnS_k (by decide)
    | 14, hl => exact adnS_o (by have h1 : i < cN τ 1 := hl; omega)
    | 15, hl => exact adnS_k (by decide)
    | 16, hl => exact adnS_k (by decide)
    | 17, hl => exact adnS_k (by decide)
    | 18, hl => exact adnS_k (by decide)
def adnE (ad : Nat → Nat → Nat) (j q : Nat) (K i : Nat) : Nat := if K = 15 ∧ i = j then q else ad K i
theorem adnE_15 {ad : Nat → Nat → Nat} {j q : Nat} : adnE ad j q 15 j = q := by simp [adnE]
theorem adnE_o {ad : Nat → Nat → Nat} {j q K i : Nat} (h : i ≠ j) : adnE ad j q K i = ad K i := by simp [adnE, h]
theorem adnE_k {ad : Nat → Nat → Nat} {j q K i : Nat} (h : K ≠ 15) : adnE ad j q K i = ad K i := by simp [adnE, h]
set_option maxHeartbeats 4000000 in
theorem RC.gE {E : Nat → ClassId} {Pr : Nat → Prop} {τ : CT} {ad : Nat → Nat → Nat} {fa : Nat → Nat → Option Nat} {h : XW} (hR : RC E Pr τ ad fa h) (hW : CW τ) {s1 : Nat} {d1 : Int32} {q : Nat} (hj : fa 3 (cN τ 2) = some q) (g_q : h q = some (.inr (1, [.ref (ad 14 s1), .int d1, .int (nI 2000)]))) (n_q : (∀ K i, clive τ K i → ad K i ≠ q) ∧ ¬ Pr q) (ho : s1 < cN τ 1) : ∃ ad1 : Nat → Nat → Nat, RC E Pr (cNewE τ s1 d1) ad1 fa (hset h (ad 0 0) (.inr (7, [.ref (ad 1 0), .ref (ad 2 0), .ref (ad 3 0), .ref (ad 4 0), .ref (ad 5 0), .ref (ad 6 0), .ref (ad 7 0), .int (nI (cN τ 0)), .int (nI (cN τ 1)), .int (nI (cN τ 2 + 1)), .int (nI (cN τ 3)), .int (nI (cN τ 4)), .int (nI (cN τ 5)), .long (cL τ 0 0)]))) ∧ (∀ K i, clive τ K i → ad1 K i = ad K i) ∧ ad1 15 (cN τ 2) = q := by
  refine ⟨(adnE ad (cN τ 2) q), ?_, ?_, adnE_15⟩
  · refine hR.grow (τ1 := (cNewE τ s1 d1)) ?_ ?_ ?_ ?_ ?_ ?_
    · show _ = (.inr (7, [.ref ((adnE ad (cN τ 2) q) 1 0), .ref ((adnE ad (cN τ 2) q) 2 0), .ref ((adnE ad (cN τ 2) q) 3 0), .ref ((adnE ad (cN τ 2) q) 4 0), .ref ((adnE ad (cN τ 2) q) 5 0), .ref ((adnE ad (cN τ 2) q) 6 0), .ref ((adnE ad (cN τ 2) q) 7 0), .int (nI (cN (cNewE τ s1 d1) 0)), .int (nI (cN (cNewE τ s1 d1) 1)), .int (nI (cN (cNewE τ s1 d1) 2)), .int (nI (cN (cNewE τ s1 d1) 3)), .int (nI (cN (cNewE τ s1 d1) 4)), .int (nI (cN (cNewE τ s1 d1) 5)), .long (cL (cNewE τ s1 d1) 0 0)]) : va_E)
      simp [cNewE_I, cNewE_L, cNewE_K, cNewE_M, cNewE_D, cNewE_N, cNewE_N0, cNewE_N1, cNewE_N3, cNewE_N4, cNewE_N5, adnE]
    · intro K i hl
      match K, hl with
      | 0, hl => exact hl
      | 1, hl => exact hl
      | 2, hl => exact hl
      | 3, hl => exact hl
      | 4, hl => exact hl
      | 5, hl => exact hl
      | 6, hl => exact hl
      | 7, hl => exact hl
      | 8, hl => exact hl
      | 9, hl => exact hl
      | 10, hl => exact (show i < cN (cNewE τ s1 d1) 0 by have h1 : i < cN τ 0 := hl; simp only [cNewE_I, cNewE_L, cNewE_K, cNewE_M, cNewE_D, cNewE_N, cNewE_N0, cNewE_N1, cNewE_N3, cNewE_N4, cNewE_N5]; omega)
      | 11, hl => exact (show i < cN (cNewE τ s1 d1) 0 by have h1 : i < cN τ 0 := hl; simp only [cNewE_I, cNewE_L, cNewE_K, cNewE_M, cNewE_D, cNewE_N, cNewE_N0, cNewE_N1, cNewE_N3, cNewE_N4, cNewE_N5]; omega)
      | 12, hl => exact (show i < cN (cNewE τ s1 d1) 0 by have h1 : i < cN τ 0 := hl; simp only [cNewE_I, cNewE_L, cNewE_K, cNewE_M, cNewE_D, cNewE_N, cNewE_N0, cNewE_N1, cNewE_N3, cNewE_N4, cNewE_N5]; omega)
      | 13, hl => exact (show i < cN (cNewE τ s1 d1) 0 by have h1 : i < cN τ 0 := hl; simp only [cNewE_I, cNewE_L, cNewE_K, cNewE_M, cNewE_D, cNewE_N, cNewE_N0, cNewE_N1, cNewE_N3, cNewE_N4, cNewE_N5]; omega)
      | 14, hl => exact (show i < cN (cNewE τ s1 d1) 1 by have h1 : i < cN τ 1 := hl; simp only [cNewE_I, cNewE_L, cNewE_K, cNewE_M, cNewE_D, cNewE_N, cNewE_N0, cNewE_N1, cNewE_N3, cNewE_N4, cNewE_N5]; omega)
      | 15, hl => exact (show i < cN (cNewE τ s1 d1) 2 by have h1 : i < cN τ 2 := hl; simp only [cNewE_I, cNewE_L, cNewE_K, cNewE_M, cNewE_D, cNewE_N, cNewE_N0, cNewE_N1, cNewE_N3, cNewE_N4, cNewE_N5]; omega)
      | 16, hl => exact (show i < cN (cNewE τ s1 d1) 3 by have h1 : i < cN τ 3 := hl; simp only [cNewE_I, cNewE_L, cNewE_K, cNewE_M, cNewE_D, cNewE_N, cNewE_N0, cNewE_N1, cNewE_N3, cNewE_N4, cNewE_N5]; omega)
      | 17, hl => exact (show i < cN (cNewE τ s1 d1) 4 by have h1 : i < cN τ 4 := hl; simp only [cNewE_I, cNewE_L, cNewE_K, cNewE_M, cNewE_D, cNewE_N, cNewE_N0, cNewE_N1, cNewE_N3, cNewE_N4, cNewE_N5]; omega)
      | 18, hl => exact hl
    · intro K i hl hn
      match K, hl, hn with
      | 0, hl, hn => exact absurd hl hn
      | 1, hl, hn => exact absurd hl hn
      | 2, hl, hn => exact absurd hl hn
      | 3, hl, hn => exact absurd hl hn
      | 4, hl, hn => exact absurd hl hn
      | 5, hl, hn => exact absurd hl hn
      | 6, hl, hn => exact absurd hl hn
      | 7, hl, hn => exact absurd hl hn
      | 8, hl, hn => exact absurd hl hn
      | 9, hl, hn => exact absurd hl hn
      | 10, hl, hn => exact absurd (show i < cN τ 0 by have h1 : i < cN (cNewE τ s1 d1) 0 := hl; simp only [cNewE_I, cNewE_L, cNewE_K, cNewE_M, cNewE_D, cNewE_N, cNewE_N0, cNewE_N1, cNewE_N3, cNewE_N4, cNewE_N5] at h1; omega) hn
      | 11, hl, hn => exact absurd (show i < cN τ 0 by have h1 : i < cN (cNewE τ s1 d1) 0 := hl; simp only [cNewE_I, cNewE_L, cNewE_K, cNewE_M, cNewE_D, cNewE_N, cNewE_N0, cNewE_N1, cNewE_N3, cNewE_N4, cNewE_N5] at h1; omega) hn
      | 12, hl, hn => exact absurd (show i < cN τ 0 by have h1 : i < cN (cNewE τ s1 d1) 0 := hl; simp only [cNewE_I, cNewE_L, cNewE_K, cNewE_M, cNewE_D, cNewE_N, cNewE_N0, cNewE_N1, cNewE_N3, cNewE_N4, cNewE_N5] at h1; omega) hn
      | 13, hl, hn => exact absurd (show i < cN τ 0 by have h1 : i < cN (cNewE τ s1 d1) 0 := hl; simp only [cNewE_I, cNewE_L, cNewE_K, cNewE_M, cNewE_D, cNewE_N, cNewE_N0, cNewE_N1, cNewE_N3, cNewE_N4, cNewE_N5] at h1; omega) hn
      | 14, hl, hn => exact absurd (show i < cN τ 1 by have h1 : i < cN (cNewE τ s1 d1) 1 := hl; simp only [cNewE_I, cNewE_L, cNewE_K, cNewE_M, cNewE_D, cNewE_N, cNewE_N0, cNewE_N1, cNewE_N3, cNewE_N4, cNewE_N5] at h1; omega) hn
      | 15, hl, hn =>
        have h1 : i < cN (cNewE τ s1 d1) 2 := hl
        have h2 : ¬ i < cN τ 2 := hn
        rw [cNewE_N] at h1
        have h3 : i = (cN τ 2) := by omega
        subst h3
        refine ⟨?_, by rw [adnE_15]; exact n_q.1, by rw [adnE_15]; exact n_q.2⟩
        show h ((adnE ad (cN τ 2) q) 15 (cN τ 2)) = some (.inr (1, [.ref ((adnE ad (cN τ 2) q) 14 (cK (cNewE τ s1 d1) 11 (cN τ 2))), .int (cI (cNewE τ s1 d1) 22 (cN τ 2)), .int (cI (cNewE τ s1 d1) 23 (cN τ 2))]))
        rw [adnE_15, g_q]
        simp [cNewE_I, cNewE_L, cNewE_K, cNewE_M, cNewE_D, cNewE_N, cNewE_N0, cNewE_N1, cNewE_N3, cNewE_N4, cNewE_N5, adnE, va_rf]
      | 16, hl, hn => exact absurd (show i < cN τ 3 by have h1 : i < cN (cNewE τ s1 d1) 3 := hl; simp only [cNewE_I, cNewE_L, cNewE_K, cNewE_M, cNewE_D, cNewE_N, cNewE_N0, cNewE_N1, cNewE_N3, cNewE_N4, cNewE_N5] at h1; omega) hn
      | 17, hl, hn => exact absurd (show i < cN τ 4 by have h1 : i < cN (cNewE τ s1 d1) 4 := hl; simp only [cNewE_I, cNewE_L, cNewE_K, cNewE_M, cNewE_D, cNewE_N, cNewE_N0, cNewE_N1, cNewE_N3, cNewE_N4, cNewE_N5] at h1; omega) hn
      | 18, hl, hn => exact absurd hl hn
    · intro K i K' i' hl hn hl' hn' hz
      have key : ∀ K i, clive (cNewE τ s1 d1) K i → ¬ clive τ K i → i = (cN τ 2) ∧ (K = 15) := by
        intro K i hl hn
        match K, hl, hn with
        | 0, hl, hn => exact absurd hl hn
        | 1, hl, hn => exact absurd hl hn
        | 2, hl, hn => exact absurd hl hn
        | 3, hl, hn => exact absurd hl hn
        | 4, hl, hn => exact absurd hl hn
        | 5, hl, hn => exact absurd hl hn
        | 6, hl, hn => exact absurd hl hn
        | 7, hl, hn => exact absurd hl hn
        | 8, hl, hn => exact absurd hl hn
        | 9, hl, hn => exact absurd hl hn
        | 10, hl, hn => exact absurd (show i < cN τ 0 by have h1 : i < cN (cNewE τ s1 d1) 0 := hl; simp only [cNewE_I, cNewE_L, cNewE_K, cNewE_M, cNewE_D, cNewE_N, cNewE_N0, cNewE_N1, cNewE_N3, cNewE_N4, cNewE_N5] at h1; omega) hn
        | 11, hl, hn => exact absurd (show i < cN τ 0 by have h1 : i < cN (cNewE τ s1 d1) 0 := hl; simp only [cNewE_I, cNewE_L, cNewE_K, cNewE_M, cNewE_D, cNewE_N, cNewE_N0, cNewE_N1, cNewE_N3, cNewE_N4, cNewE_N5] at h1; omega) hn
        | 12, hl, hn => exact absurd (show i < cN τ 0 by have h1 : i < cN (cNewE τ s1 d1) 0 := hl; simp only [cNewE_I, cNewE_L, cNewE_K, cNewE_M, cNewE_D, cNewE_N, cNewE_N0, cNewE_N1, cNewE_N3, cNewE_N4, cNewE_N5] at h1; omega) hn
        | 13, hl, hn => exact absurd (show i < cN τ 0 by have h1 : i < cN (cNewE τ s1 d1) 0 := hl; simp only [cNewE_I, cNewE_L, cNewE_K, cNewE_M, cNewE_D, cNewE_N, cNewE_N0, cNewE_N1, cNewE_N3, cNewE_N4, cNewE_N5] at h1; omega) hn
        | 14, hl, hn => exact absurd (show i < cN τ 1 by have h1 : i < cN (cNewE τ s1 d1) 1 := hl; simp only [cNewE_I, cNewE_L, cNewE_K, cNewE_M, cNewE_D, cNewE_N, cNewE_N0, cNewE_N1, cNewE_N3, cNewE_N4, cNewE_N5] at h1; omega) hn
        | 15, hl, hn =>
          have h1 : i < cN (cNewE τ s1 d1) 2 := hl
          have h2 : ¬ i < cN τ 2 := hn
          rw [cNewE_N] at h1
          exact ⟨by omega, by simp⟩
        | 16, hl, hn => exact absurd (show i < cN τ 3 by have h1 : i < cN (cNewE τ s1 d1) 3 := hl; simp only [cNewE_I, cNewE_L, cNewE_K, cNewE_M, cNewE_D, cNewE_N, cNewE_N0, cNewE_N1, cNewE_N3, cNewE_N4, cNewE_N5] at h1; omega) hn
        | 17, hl, hn => exact absurd (show i < cN τ 4 by have h1 : i < cN (cNewE τ s1 d1) 4 := hl; simp only [cNewE_I, cNewE_L, cNewE_K, cNewE_M, cNewE_D, cNewE_N, cNewE_N0, cNewE_N1, cNewE_N3, cNewE_N4, cNewE_N5] at h1; omega) hn
        | 18, hl, hn => exact absurd hl hn
      obtain ⟨u1, u2⟩ := key K i hl hn
      obtain ⟨v1, v2⟩ := key K' i' hl' hn'
      subst u1; subst v1
      refine ⟨?_, rfl⟩
      rcases u2 with rfl <;> rcases v2 with rfl <;> first | rfl | (simp [adnE] at hz; omega)
    · intro K i hl
      match K, hl with
      | 0, hl => exact ⟨by simp [adnE], fun z => absurd rfl z⟩
      | 1, hl =>
        refine ⟨by simp [adnE], fun _ => ?_⟩
        show (.inl (E 3, 12, .inr (.inr (.inr (.inr (fa 1))))) : va_E) = (.inl (E 3, 12, .inr (.inr (.inr (.inr (fa 1))))) : va_E)
        rfl
      | 2, hl =>
        refine ⟨by simp [adnE], fun _ => ?_⟩
        show (.inl (E 4, 24, .inr (.inr (.inr (.inr (fa 2))))) : va_E) = (.inl (E 4, 24, .inr (.inr (.inr (.inr (fa 2))))) : va_E)
        rfl
      | 3, hl =>
        refine ⟨by simp [adnE], fun _ => ?_⟩
        show (.inl (E 5, 60, .inr (.inr (.inr (.inr (fa 3))))) : va_E) = (.inl (E 5, 60, .inr (.inr (.inr (.inr (fa 3))))) : va_E)
        rfl
      | 4, hl =>
        refine ⟨by simp [adnE], fun _ => ?_⟩
        show (.inl (E 6, 60, .inr (.inr (.inr (.inr (fa 4))))) : va_E) = (.inl (E 6, 60, .inr (.inr (.inr (.inr (fa 4))))) : va_E)
        rfl
      | 5, hl =>
        refine ⟨by simp [adnE], fun _ => ?_⟩
        show (.inl (E 7, 60, .inr (.inr (.inr (.inr (fa 5))))) : va_E) = (.inl (E 7, 60, .inr (.inr (.inr (.inr (fa 5))))) : va_E)
        rfl
      | 6, hl =>
        refine ⟨by simp [adnE], fun _ => ?_⟩
        show (.inl (E 8, 20, .inr (.inr (.inr (.inr (fa 6))))) : va_E) = (.inl (E 8, 20, .inr (.inr (.inr (.inr (fa 6))))) : va_E)
        rfl
      | 7, hl =>
        refine ⟨by simp [adnE], fun _ => ?_⟩
        show (.inr (4, [.ref ((adnE ad (cN τ 2) q) 8 0), .ref ((adnE ad (cN τ 2) q) 9 0)]) : va_E) = (.inr (4, [.ref (ad 8 0), .ref (ad 9 0)]) : va_E)
        simp [cNewE_I, cNewE_L, cNewE_K, cNewE_M, cNewE_D, cNewE_N, cNewE_N0, cNewE_N1, cNewE_N3, cNewE_N4, cNewE_N5, adnE]
      | 8, hl =>
        refine ⟨by simp [adnE], fun _ => ?_⟩
        show (.inl (E 0, 80, .inl (cI (cNewE τ s1 d1) 38)) : va_E) = (.inl (E 0, 80, .inl (cI τ 38)) : va_E)
        rw [show cI (cNewE τ s1 d1) 38 = cI τ 38 from by funext b; simp [cNewE_I, cNewE_L, cNewE_K, cNewE_M, cNewE_D, cNewE_N, cNewE_N0, cNewE_N1, cNewE_N3, cNewE_N4, cNewE_N5]]
      | 9, hl =>
        refine ⟨by simp [adnE], fun _ => ?_⟩
        show (.inl (E 0, 80, .inl (cI (cNewE τ s1 d1) 39)) : va_E) = (.inl (E 0, 80, .inl (cI τ 39)) : va_E)
        rw [show cI (cNewE τ s1 d1) 39 = cI τ 39 from by funext b; simp [cNewE_I, cNewE_L, cNewE_K, cNewE_M, cNewE_D, cNewE_N, cNewE_N0, cNewE_N1, cNewE_N3, cNewE_N4, cNewE_N5]]
      | 10, hl =>
        refine ⟨by simp [adnE], fun _ => ?_⟩
        show (.inr (3, [.ref ((adnE ad (cN τ 2) q) 11 i), .ref ((adnE ad (cN τ 2) q) 12 i), .ref ((adnE ad (cN τ 2) q) 13 i), .long (cL (cNewE τ s1 d1) 20 i), .int (cI (cNewE τ s1 d1) 20 i)]) : va_E) = (.inr (3, [.ref (ad 11 i), .ref (ad 12 i), .ref (ad 13 i), .long (cL τ 20 i), .int (cI τ 20 i)]) : va_E)
        simp [cNewE_I, cNewE_L, cNewE_K, cNewE_M, cNewE_D, cNewE_N, cNewE_N0, cNewE_N1, cNewE_N3, cNewE_N4, cNewE_N5, adnE]
      | 11, hl =>
        refine ⟨by simp [adnE], fun _ => ?_⟩
        show (.inl (E 0, 20, .inl (cM (cNewE τ s1 d1) 0 i)) : va_E) = (.inl (E 0, 20, .inl (cM τ 0 i)) : va_E)
        rw [show cM (cNewE τ s1 d1) 0 i = cM τ 0 i from by funext d; simp [cNewE_I, cNewE_L, cNewE_K, cNewE_M, cNewE_D, cNewE_N, cNewE_N0, cNewE_N1, cNewE_N3, cNewE_N4, cNewE_N5]]
      | 12, hl =>
        refine ⟨by simp [adnE], fun _ => ?_⟩
        show (.inl (E 2, 20, .inl (cM (cNewE τ s1 d1) 1 i)) : va_E) = (.inl (E 2, 20, .inl (cM τ 1 i)) : va_E)
        rw [show cM (cNewE τ s1 d1) 1 i = cM τ 1 i from by funext d; simp [cNewE_I, cNewE_L, cNewE_K, cNewE_M, cNewE_D, cNewE_N, cNewE_N0, cNewE_N1, cNewE_N3, cNewE_N4, cNewE_N5]]
      | 13, hl =>
        refine ⟨by simp [adnE], fun _ => ?_⟩
        show (.inl (E 1, 20, .inr (.inl (cD (cNewE τ s1 d1) i))) : va_E) = (.inl (E 1, 20, .inr (.inl (cD τ i))) : va_E)
        rw [show cD (cNewE τ s1 d1) i = cD τ i from by funext d; simp [cNewE_I, cNewE_L, cNewE_K, cNewE_M, cNewE_D, cNewE_N, cNewE_N0, cNewE_N1, cNewE_N3, cNewE_N4, cNewE_N5]]
      | 14, hl =>
        refine ⟨by simp [adnE], fun _ => ?_⟩
        show (.inr (5, [.ref ((adnE ad (cN τ 2) q) 10 (cK (cNewE τ s1 d1) 10 i)), .int (cI (cNewE τ s1 d1) 21 i), va_rf (if cK (cNewE τ s1 d1) 14 i = 0 then none else some ((adnE ad (cN τ 2) q) 15 (cK (cNewE τ s1 d1) 14 i - 1))), .long (cL (cNewE τ s1 d1) 21 i)]) : va_E) = (.inr (5, [.ref (ad 10 (cK τ 10 i)), .int (cI τ 21 i), va_rf (if cK τ 14 i = 0 then none else some (ad 15 (cK τ 14 i - 1))), .long (cL τ 21 i)]) : va_E)
        have h7 := hW.2.2.2.2.2.1 i hl
        by_cases h6 : cK τ 14 i = 0
        · simp [cNewE_I, cNewE_L, cNewE_K, cNewE_M, cNewE_D, cNewE_N, cNewE_N0, cNewE_N1, cNewE_N3, cNewE_N4, cNewE_N5, adnE, h6]
        · have h9 : ¬ cK τ 14 i - 1 = cN τ 2 := by omega
          simp [cNewE_I, cNewE_L, cNewE_K, cNewE_M, cNewE_D, cNewE_N, cNewE_N0, cNewE_N1, cNewE_N3, cNewE_N4, cNewE_N5, adnE, h6, h9]
      | 15, hl =>
        have hl2 : i < cN τ 2 := hl
        have h8 : ¬ i = cN τ 2 := by omega
        refine ⟨by simp [adnE, h8], fun _ => ?_⟩
        show (.inr (1, [.ref ((adnE ad (cN τ 2) q) 14 (cK (cNewE τ s1 d1) 11 i)), .int (cI (cNewE τ s1 d1) 22 i), .int (cI (cNewE τ s1 d1) 23 i)]) : va_E) = (.inr (1, [.ref (ad 14 (cK τ 11 i)), .int (cI τ 22 i), .int (cI τ 23 i)]) : va_E)
        simp [cNewE_I, cNewE_L, cNewE_K, cNewE_M, cNewE_D, cNewE_N, cNewE_N0, cNewE_N1, cNewE_N3, cNewE_N4, cNewE_N5, adnE, h8]
      | 16, hl =>
        refine ⟨by simp [adnE], fun _ => ?_⟩
        show (.inr (0, [.ref ((adnE ad (cN τ 2) q) 14 (cK (cNewE τ s1 d1) 12 i)), .int (nI (cK (cNewE τ s1 d1) 15 i)), .ref ((adnE ad (cN τ 2) q) 17 (cK (cNewE τ s1 d1) 13 i)), .int (cI (cNewE τ s1 d1) 24 i), .int (cI (cNewE τ s1 d1) 25 i), .int (cI (cNewE τ s1 d1) 26 i), .int (cI (cNewE τ s1 d1) 27 i), .int (cI (cNewE τ s1 d1) 28 i)]) : va_E) = (.inr (0, [.ref (ad 14 (cK τ 12 i)), .int (nI (cK τ 15 i)), .ref (ad 17 (cK τ 13 i)), .int (cI τ 24 i), .int (cI τ 25 i), .int (cI τ 26 i), .int (cI τ 27 i), .int (cI τ 28 i)]) : va_E)
        simp [cNewE_I, cNewE_L, cNewE_K, cNewE_M, cNewE_D, cNewE_N, cNewE_N0, cNewE_N1, cNewE_N3, cNewE_N4, cNewE_N5, adnE]
      | 17, hl =>
        refine ⟨by simp [adnE], fun _ => ?_⟩
        show (.inr (2, [.int (cI (cNewE τ s1 d1) 29 i), .int (nI (cK (cNewE τ s1 d1) 16 i)), .int (cI (cNewE τ s1 d1) 30 i)]) : va_E) = (.inr (2, [.int (cI τ 29 i), .int (nI (cK τ 16 i)), .int (cI τ 30 i)]) : va_E)
        simp [cNewE_I, cNewE_L, cNewE_K, cNewE_M, cNewE_D, cNewE_N, cNewE_N0, cNewE_N1, cNewE_N3, cNewE_N4, cNewE_N5, adnE]
      | 18, hl =>
        refine ⟨by simp [adnE], fun _ => ?_⟩
        show (.inr (6, [.int (cI (cNewE τ s1 d1) 31 i), .int (cI (cNewE τ s1 d1) 32 i), .int (cI (cNewE τ s1 d1) 33 i), .int (cI (cNewE τ s1 d1) 34 i), .int (cI (cNewE τ s1 d1) 35 i), .int (cI (cNewE τ s1 d1) 36 i), .int (cI (cNewE τ s1 d1) 37 i)]) : va_E) = (.inr (6, [.int (cI τ 31 i), .int (cI τ 32 i), .int (cI τ 33 i), .int (cI τ 34 i), .int (cI τ 35 i), .int (cI τ 36 i), .int (cI τ 37 i)]) : va_E)
        simp [cNewE_I, cNewE_L, cNewE_K, cNewE_M, cNewE_D, cNewE_N, cNewE_N0, cNewE_N1, cNewE_N3, cNewE_N4, cNewE_N5, adnE]
    · obtain ⟨f1, f2, f3, f4, f5, f6⟩ := hR.2.2.2.2
      refine ⟨fun b hb => ?_, fun b hb => ?_, fun b hb => ?_, fun b hb => ?_, fun b hb => ?_, fun b hb => ?_⟩
      · rw [cNewE_N0] at hb; rw [adnE_k (by decide)]; exact f1 b hb
      · rw [cNewE_N1] at hb; rw [adnE_k (by decide)]; exact f2 b hb
      · rw [cNewE_N] at hb
        by_cases hbj : b = (cN τ 2)
        · subst hbj; rw [adnE_15]; exact hj
        · rw [adnE_o hbj]; exact f3 b (by omega)
      · rw [cNewE_N3] at hb; rw [adnE_k (by decide)]; exact f4 b hb
      · rw [cNewE_N4] at hb; rw [adnE_k (by decide)]; exact f5 b hb
      · rw [adnE_k (by decide)]; exact f6 b hb
  · intro K i hl
    match K, hl with
    | 0, hl => exact adnE_k (by decide)
    | 1, hl => exact adnE_k (by decide)
    | 2, hl => exact adnE_k (by decide)
    | 3, hl => exact adnE_k (by decide)
    | 4, hl => exact adnE_k (by decide)
    | 5, hl => exact adnE_k (by decide)
    | 6, hl => exact adnE_k (by decide)
    | 7, hl => exact adnE_k (by decide)
    | 8, hl => exact adnE_k (by decide)
    | 9, hl => exact adnE_k (by decide)
    | 10, hl => exact adnE_k (by decide)
    | 11, hl => exact adnE_k (by decide)
    | 12, hl => exact adnE_k (by decide)
    | 13, hl => exact adnE_k (by decide)
    | 14, hl => exact adnE_k (by decide)
    | 15, hl => exact adnE_o (by have h1 : i < cN τ 2 := hl; omega)
    | 16, hl => exact adnE_k (by decide)
    | 17, hl => exact adnE_k (by decide)
    | 18, hl => exact adnE_k (by decide)
def adnC (ad : Nat → Nat → Nat) (j q : Nat) (K i : Nat) : Nat := if K = 16 ∧ i = j then q else ad K i
theorem adnC_16 {ad : Nat → Nat → Nat} {j q : Nat} : adnC ad j q 16 j = q := by simp [adnC]
theorem adnC_o {ad : Nat → Nat → Nat} {j q K i : Nat} (h : i ≠ j) : adnC ad j q K i = ad K i := by simp [adnC, h]
theorem adnC_k {ad : Nat → Nat → Nat} {j q K i : Nat} (h : K ≠ 16) : adnC ad j q K i = ad K i := by simp [adnC, h]
set_option maxHeartbeats 4000000 in
theorem RC.gC {E : Nat → ClassId} {Pr : Nat → Prop} {τ : CT} {ad : Nat → Nat → Nat} {fa : Nat → Nat → Option Nat} {h : XW} (hR : RC E Pr τ ad fa h) (hW : CW τ) {s1 k1 : Nat} {l1 : Int32} {e1 : Nat} {q : Nat} (hj : fa 4 (cN τ 3) = some q) (g_q : h q = some (.inr (0, [.ref (ad 14 s1), .int (nI k1), .ref (ad 17 e1), .int l1, .int 0, .int 0, .int 0, .int 0]))) (n_q : (∀ K i, clive τ K i → ad K i ≠ q) ∧ ¬ Pr q) (ho : s1 < cN τ 1) (he : e1 < cN τ 4) : ∃ ad1 : Nat → Nat → Nat, RC E Pr (cNewC τ s1 k1 l1 e1) ad1 fa (hset h (ad 0 0) (.inr (7, [.ref (ad 1 0), .ref (ad 2 0), .ref (ad 3 0), .ref (ad 4 0), .ref (ad 5 0), .ref (ad 6 0), .ref (ad 7 0), .int (nI (cN τ 0)), .int (nI (cN τ 1)), .int (nI (cN τ 2)), .int (nI (cN τ 3 + 1)), .int (nI (cN τ 4)), .int (nI (cN τ 5)), .long (cL τ 0 0)]))) ∧ (∀ K i, clive τ K i → ad1 K i = ad K i) ∧ ad1 16 (cN τ 3) = q := by
  refine ⟨(adnC ad (cN τ 3) q), ?_, ?_, adnC_16⟩
  · refine hR.grow (τ1 := (cNewC τ s1 k1 l1 e1)) ?_ ?_ ?_ ?_ ?_ ?_
    · show _ = (.inr (7, [.ref ((adnC ad (cN τ 3) q) 1 0), .ref ((adnC ad (cN τ 3) q) 2 0), .ref ((adnC ad (cN τ 3) q) 3 0), .ref ((adnC ad (cN τ 3) q) 4 0), .ref ((adnC ad (cN τ 3) q) 5 0), .ref ((adnC ad (cN τ 3) q) 6 0), .ref ((adnC ad (cN τ 3) q) 7 0), .int (nI (cN (cNewC τ s1 k1 l1 e1) 0)), .int (nI (cN (cNewC τ s1 k1 l1 e1) 1)), .int (nI (cN (cNewC τ s1 k1 l1 e1) 2)), .int (nI (cN (cNewC τ s1 k1 l1 e1) 3)), .int (nI (cN (cNewC τ s1 k1 l1 e1) 4)), .int (nI (cN (cNewC τ s1 k1 l1 e1) 5)), .long (cL (cNewC τ s1 k1 l1 e1) 0 0)]) : va_E)
      simp [cNewC_I, cNewC_L, cNewC_K, cNewC_M, cNewC_D, cNewC_N, cNewC_N0, cNewC_N1, cNewC_N2, cNewC_N4, cNewC_N5, adnC]
    · intro K i hl
      match K, hl with
      | 0, hl => exact hl
      | 1, hl => exact hl
      | 2, hl => exact hl
      | 3, hl => exact hl
      | 4, hl => exact hl
      | 5, hl => exact hl
      | 6, hl => exact hl
      | 7, hl => exact hl
      | 8, hl => exact hl
      | 9, hl => exact hl
      | 10, hl => exact (show i < cN (cNewC τ s1 k1 l1 e1) 0 by have h1 : i < cN τ 0 := hl; simp only [cNewC_I, cNewC_L, cNewC_K, cNewC_M, cNewC_D, cNewC_N, cNewC_N0, cNewC_N1, cNewC_N2, cNewC_N4, cNewC_N5]; omega)
      | 11, hl => exact (show i < cN (cNewC τ s1 k1 l1 e1) 0 by have h1 : i < cN τ 0 := hl; simp only [cNewC_I, cNewC_L, cNewC_K, cNewC_M, cNewC_D, cNewC_N, cNewC_N0, cNewC_N1, cNewC_N2, cNewC_N4, cNewC_N5]; omega)
      | 12, hl => exact (show i < cN (cNewC τ s1 k1 l1 e1) 0 by have h1 : i < cN τ 0 := hl; simp only [cNewC_I, cNewC_L, cNewC_K, cNewC_M, cNewC_D, cNewC_N, cNewC_N0, cNewC_N1, cNewC_N2, cNewC_N4, cNewC_N5]; omega)
      | 13, hl => exact (show i < cN (cNewC τ s1 k1 l1 e1) 0 by have h1 : i < cN τ 0 := hl; simp only [cNewC_I, cNewC_L, cNewC_K, cNewC_M, cNewC_D, cNewC_N, cNewC_N0, cNewC_N1, cNewC_N2, cNewC_N4, cNewC_N5]; omega)
      | 14, hl => exact (show i < cN (cNewC τ s1 k1 l1 e1) 1 by have h1 : i < cN τ 1 := hl; simp only [cNewC_I, cNewC_L, cNewC_K, cNewC_M, cNewC_D, cNewC_N, cNewC_N0, cNewC_N1, cNewC_N2, cNewC_N4, cNewC_N5]; omega)
      | 15, hl => exact (show i < cN (cNewC τ s1 k1 l1 e1) 2 by have h1 : i < cN τ 2 := hl; simp only [cNewC_I, cNewC_L, cNewC_K, cNewC_M, cNewC_D, cNewC_N, cNewC_N0, cNewC_N1, cNewC_N2, cNewC_N4, cNewC_N5]; omega)
      | 16, hl => exact (show i < cN (cNewC τ s1 k1 l1 e1) 3 by have h1 : i < cN τ 3 := hl; simp only [cNewC_I, cNewC_L, cNewC_K, cNewC_M, cNewC_D, cNewC_N, cNewC_N0, cNewC_N1, cNewC_N2, cNewC_N4, cNewC_N5]; omega)
      | 17, hl => exact (show i < cN (cNewC τ s1 k1 l1 e1) 4 by have h1 : i < cN τ 4 := hl; simp only [cNewC_I, cNewC_L, cNewC_K, cNewC_M, cNewC_D, cNewC_N, cNewC_N0, cNewC_N1, cNewC_N2, cNewC_N4, cNewC_N5]; omega)
      | 18, hl => exact hl
    · intro K i hl hn
      match K, hl, hn with
      | 0, hl, hn => exact absurd hl hn
      | 1, hl, hn => exact absurd hl hn
      | 2, hl, hn => exact absurd hl hn
      | 3, hl, hn => exact absurd hl hn
      | 4, hl, hn => exact absurd hl hn
      | 5, hl, hn => exact absurd hl hn
      | 6, hl, hn => exact absurd hl hn
      | 7, hl, hn => exact absurd hl hn
      | 8, hl, hn => exact absurd hl hn
      | 9, hl, hn => exact absurd hl hn
      | 10, hl, hn => exact absurd (show i < cN τ 0 by have h1 : i < cN (cNewC τ s1 k1 l1 e1) 0 := hl; simp only [cNewC_I, cNewC_L, cNewC_K, cNewC_M, cNewC_D, cNewC_N, cNewC_N0, cNewC_N1, cNewC_N2, cNewC_N4, cNewC_N5] at h1; omega) hn
      | 11, hl, hn => exact absurd (show i < cN τ 0 by have h1 : i < cN (cNewC τ s1 k1 l1 e1) 0 := hl; simp only [cNewC_I, cNewC_L, cNewC_K, cNewC_M, cNewC_D, cNewC_N, cNewC_N0, cNewC_N1, cNewC_N2, cNewC_N4, cNewC_N5] at h1; omega) hn
      | 12, hl, hn => exact absurd (show i < cN τ 0 by have h1 : i < cN (cNewC τ s1 k1 l1 e1) 0 := hl; simp only [cNewC_I, cNewC_L, cNewC_K, cNewC_M, cNewC_D, cNewC_N, cNewC_N0, cNewC_N1, cNewC_N2, cNewC_N4, cNewC_N5] at h1; omega) hn
      | 13, hl, hn => exact absurd (show i < cN τ 0 by have h1 : i < cN (cNewC τ s1 k1 l1 e1) 0 := hl; simp only [cNewC_I, cNewC_L, cNewC_K, cNewC_M, cNewC_D, cNewC_N, cNewC_N0, cNewC_N1, cNewC_N2, cNewC_N4, cNewC_N5] at h1; omega) hn
      | 14, hl, hn => exact absurd (show i < cN τ 1 by have h1 : i < cN (cNewC τ s1 k1 l1 e1) 1 := hl; simp only [cNewC_I, cNewC_L, cNewC_K, cNewC_M, cNewC_D, cNewC_N, cNewC_N0, cNewC_N1, cNewC_N2, cNewC_N4, cNewC_N5] at h1; omega) hn
      | 15, hl, hn => exact absurd (show i < cN τ 2 by have h1 : i < cN (cNewC τ s1 k1 l1 e1) 2 := hl; simp only [cNewC_I, cNewC_L, cNewC_K, cNewC_M, cNewC_D, cNewC_N, cNewC_N0, cNewC_N1, cNewC_N2, cNewC_N4, cNewC_N5] at h1; omega) hn
      | 16, hl, hn =>
        have h1 : i < cN (cNewC τ s1 k1 l1 e1) 3 := hl
        have h2 : ¬ i < cN τ 3 := hn
        rw [cNewC_N] at h1
        have h3 : i = (cN τ 3) := by omega
        subst h3
        refine ⟨?_, by rw [adnC_16]; exact n_q.1, by rw [adnC_16]; exact n_q.2⟩
        show h ((adnC ad (cN τ 3) q) 16 (cN τ 3)) = some (.inr (0, [.ref ((adnC ad (cN τ 3) q) 14 (cK (cNewC τ s1 k1 l1 e1) 12 (cN τ 3))), .int (nI (cK (cNewC τ s1 k1 l1 e1) 15 (cN τ 3))), .ref ((adnC ad (cN τ 3) q) 17 (cK (cNewC τ s1 k1 l1 e1) 13 (cN τ 3))), .int (cI (cNewC τ s1 k1 l1 e1) 24 (cN τ 3)), .int (cI (cNewC τ s1 k1 l1 e1) 25 (cN τ 3)), .int (cI (cNewC τ s1 k1 l1 e1) 26 (cN τ 3)), .int (cI (cNewC τ s1 k1 l1 e1) 27 (cN τ 3)), .int (cI (cNewC τ s1 k1 l1 e1) 28 (cN τ 3))]))
        rw [adnC_16, g_q]
        simp [cNewC_I, cNewC_L, cNewC_K, cNewC_M, cNewC_D, cNewC_N, cNewC_N0, cNewC_N1, cNewC_N2, cNewC_N4, cNewC_N5, adnC, va_rf]
      | 17, hl, hn => exact absurd (show i < cN τ 4 by have h1 : i < cN (cNewC τ s1 k1 l1 e1) 4 := hl; simp only [cNewC_I, cNewC_L, cNewC_K, cNewC_M, cNewC_D, cNewC_N, cNewC_N0, cNewC_N1, cNewC_N2, cNewC_N4, cNewC_N5] at h1; omega) hn
      | 18, hl, hn => exact absurd hl hn
    · intro K i K' i' hl hn hl' hn' hz
      have key : ∀ K i, clive (cNewC τ s1 k1 l1 e1) K i → ¬ clive τ K i → i = (cN τ 3) ∧ (K = 16) := by
        intro K i hl hn
        match K, hl, hn with
        | 0, hl, hn => exact absurd hl hn
        | 1, hl, hn => exact absurd hl hn
        | 2, hl, hn => exact absurd hl hn
        | 3, hl, hn => exact absurd hl hn
        | 4, hl, hn => exact absurd hl hn
        | 5, hl, hn => exact absurd hl hn
        | 6, hl, hn => exact absurd hl hn
        | 7, hl, hn => exact absurd hl hn
        | 8, hl, hn => exact absurd hl hn
        | 9, hl, hn => exact absurd hl hn
        | 10, hl, hn => exact absurd (show i < cN τ 0 by have h1 : i < cN (cNewC τ s1 k1 l1 e1) 0 := hl; simp only [cNewC_I, cNewC_L, cNewC_K, cNewC_M, cNewC_D, cNewC_N, cNewC_N0, cNewC_N1, cNewC_N2, cNewC_N4, cNewC_N5] at h1; omega) hn
        | 11, hl, hn => exact absurd (show i < cN τ 0 by have h1 : i < cN (cNewC τ s1 k1 l1 e1) 0 := hl; simp only [cNewC_I, cNewC_L, cNewC_K, cNewC_M, cNewC_D, cNewC_N, cNewC_N0, cNewC_N1, cNewC_N2, cNewC_N4, cNewC_N5] at h1; omega) hn
        | 12, hl, hn => exact absurd (show i < cN τ 0 by have h1 : i < cN (cNewC τ s1 k1 l1 e1) 0 := hl; simp only [cNewC_I, cNewC_L, cNewC_K, cNewC_M, cNewC_D, cNewC_N, cNewC_N0, cNewC_N1, cNewC_N2, cNewC_N4, cNewC_N5] at h1; omega) hn
        | 13, hl, hn => exact absurd (show i < cN τ 0 by have h1 : i < cN (cNewC τ s1 k1 l1 e1) 0 := hl; simp only [cNewC_I, cNewC_L, cNewC_K, cNewC_M, cNewC_D, cNewC_N, cNewC_N0, cNewC_N1, cNewC_N2, cNewC_N4, cNewC_N5] at h1; omega) hn
        | 14, hl, hn => exact absurd (show i < cN τ 1 by have h1 : i < cN (cNewC τ s1 k1 l1 e1) 1 := hl; simp only [cNewC_I, cNewC_L, cNewC_K, cNewC_M, cNewC_D, cNewC_N, cNewC_N0, cNewC_N1, cNewC_N2, cNewC_N4, cNewC_N5] at h1; omega) hn
        | 15, hl, hn => exact absurd (show i < cN τ 2 by have h1 : i < cN (cNewC τ s1 k1 l1 e1) 2 := hl; simp only [cNewC_I, cNewC_L, cNewC_K, cNewC_M, cNewC_D, cNewC_N, cNewC_N0, cNewC_N1, cNewC_N2, cNewC_N4, cNewC_N5] at h1; omega) hn
        | 16, hl, hn =>
          have h1 : i < cN (cNewC τ s1 k1 l1 e1) 3 := hl
          have h2 : ¬ i < cN τ 3 := hn
          rw [cNewC_N] at h1
          exact ⟨by omega, by simp⟩
        | 17, hl, hn => exact absurd (show i < cN τ 4 by have h1 : i < cN (cNewC τ s1 k1 l1 e1) 4 := hl; simp only [cNewC_I, cNewC_L, cNewC_K, cNewC_M, cNewC_D, cNewC_N, cNewC_N0, cNewC_N1, cNewC_N2, cNewC_N4, cNewC_N5] at h1; omega) hn
        | 18, hl, hn => exact absurd hl hn
      obtain ⟨u1, u2⟩ := key K i hl hn
      obtain ⟨v1, v2⟩ := key K' i' hl' hn'
      subst u1; subst v1
      refine ⟨?_, rfl⟩
      rcases u2 with rfl <;> rcases v2 with rfl <;> first | rfl | (simp [adnC] at hz; omega)
    · intro K i hl
      match K, hl with
      | 0, hl => exact ⟨by simp [adnC], fun z => absurd rfl z⟩
      | 1, hl =>
        refine ⟨by simp [adnC], fun _ => ?_⟩
        show (.inl (E 3, 12, .inr (.inr (.inr (.inr (fa 1))))) : va_E) = (.inl (E 3, 12, .inr (.inr (.inr (.inr (fa 1))))) : va_E)
        rfl
      | 2, hl =>
        refine ⟨by simp [adnC], fun _ => ?_⟩
        show (.inl (E 4, 24, .inr (.inr (.inr (.inr (fa 2))))) : va_E) = (.inl (E 4, 24, .inr (.inr (.inr (.inr (fa 2))))) : va_E)
        rfl
      | 3, hl =>
        refine ⟨by simp [adnC], fun _ => ?_⟩
        show (.inl (E 5, 60, .inr (.inr (.inr (.inr (fa 3))))) : va_E) = (.inl (E 5, 60, .inr (.inr (.inr (.inr (fa 3))))) : va_E)
        rfl
      | 4, hl =>
        refine ⟨by simp [adnC], fun _ => ?_⟩
        show (.inl (E 6, 60, .inr (.inr (.inr (.inr (fa 4))))) : va_E) = (.inl (E 6, 60, .inr (.inr (.inr (.inr (fa 4))))) : va_E)
        rfl
      | 5, hl =>
        refine ⟨by simp [adnC], fun _ => ?_⟩
        show (.inl (E 7, 60, .inr (.inr (.inr (.inr (fa 5))))) : va_E) = (.inl (E 7, 60, .inr (.inr (.inr (.inr (fa 5))))) : va_E)
        rfl
      | 6, hl =>
        refine ⟨by simp [adnC], fun _ => ?_⟩
        show (.inl (E 8, 20, .inr (.inr (.inr (.inr (fa 6))))) : va_E) = (.inl (E 8, 20, .inr (.inr (.inr (.inr (fa 6))))) : va_E)
        rfl
      | 7, hl =>
        refine ⟨by simp [adnC], fun _ => ?_⟩
        show (.inr (4, [.ref ((adnC ad (cN τ 3) q) 8 0), .ref ((adnC ad (cN τ 3) q) 9 0)]) : va_E) = (.inr (4, [.ref (ad 8 0), .ref (ad 9 0)]) : va_E)
        simp [cNewC_I, cNewC_L, cNewC_K, cNewC_M, cNewC_D, cNewC_N, cNewC_N0, cNewC_N1, cNewC_N2, cNewC_N4, cNewC_N5, adnC]
      | 8, hl =>
        refine ⟨by simp [adnC], fun _ => ?_⟩
        show (.inl (E 0, 80, .inl (cI (cNewC τ s1 k1 l1 e1) 38)) : va_E) = (.inl (E 0, 80, .inl (cI τ 38)) : va_E)
        rw [show cI (cNewC τ s1 k1 l1 e1) 38 = cI τ 38 from by funext b; simp [cNewC_I, cNewC_L, cNewC_K, cNewC_M, cNewC_D, cNewC_N, cNewC_N0, cNewC_N1, cNewC_N2, cNewC_N4, cNewC_N5]]
      | 9, hl =>
        refine ⟨by simp [adnC], fun _ => ?_⟩
        show (.inl (E 0, 80, .inl (cI (cNewC τ s1 k1 l1 e1) 39)) : va_E) = (.inl (E 0, 80, .inl (cI τ 39)) : va_E)
        rw [show cI (cNewC τ s1 k1 l1 e1) 39 = cI τ 39 from by funext b; simp [cNewC_I, cNewC_L, cNewC_K, cNewC_M, cNewC_D, cNewC_N, cNewC_N0, cNewC_N1, cNewC_N2, cNewC_N4, cNewC_N5]]
      | 10, hl =>
        refine ⟨by simp [adnC], fun _ => ?_⟩
        show (.inr (3, [.ref ((adnC ad (cN τ 3) q) 11 i), .ref ((adnC ad (cN τ 3) q) 12 i), .ref ((adnC ad (cN τ 3) q) 13 i), .long (cL (cNewC τ s1 k1 l1 e1) 20 i), .int (cI (cNewC τ s1 k1 l1 e1) 20 i)]) : va_E) = (.inr (3, [.ref (ad 11 i), .ref (ad 12 i), .ref (ad 13 i), .long (cL τ 20 i), .int (cI τ 20 i)]) : va_E)
        simp [cNewC_I, cNewC_L, cNewC_K, cNewC_M, cNewC_D, cNewC_N, cNewC_N0, cNewC_N1, cNewC_N2, cNewC_N4, cNewC_N5, adnC]
      | 11, hl =>
        refine ⟨by simp [adnC], fun _ => ?_⟩
        show (.inl (E 0, 20, .inl (cM (cNewC τ s1 k1 l1 e1) 0 i)) : va_E) = (.inl (E 0, 20, .inl (cM τ 0 i)) : va_E)
        rw [show cM (cNewC τ s1 k1 l1 e1) 0 i = cM τ 0 i from by funext d; simp [cNewC_I, cNewC_L, cNewC_K, cNewC_M, cNewC_D, cNewC_N, cNewC_N0, cNewC_N1, cNewC_N2, cNewC_N4, cNewC_N5]]
      | 12, hl =>
        refine ⟨by simp [adnC], fun _ => ?_⟩
        show (.inl (E 2, 20, .inl (cM (cNewC τ s1 k1 l1 e1) 1 i)) : va_E) = (.inl (E 2, 20, .inl (cM τ 1 i)) : va_E)
        rw [show cM (cNewC τ s1 k1 l1 e1) 1 i = cM τ 1 i from by funext d; simp [cNewC_I, cNewC_L, cNewC_K, cNewC_M, cNewC_D, cNewC_N, cNewC_N0, cNewC_N1, cNewC_N2, cNewC_N4, cNewC_N5]]
      | 13, hl =>
        refine ⟨by simp [adnC], fun _ => ?_⟩
        show (.inl (E 1, 20, .inr (.inl (cD (cNewC τ s1 k1 l1 e1) i))) : va_E) = (.inl (E 1, 20, .inr (.inl (cD τ i))) : va_E)
        rw [show cD (cNewC τ s1 k1 l1 e1) i = cD τ i from by funext d; simp [cNewC_I, cNewC_L, cNewC_K, cNewC_M, cNewC_D, cNewC_N, cNewC_N0, cNewC_N1, cNewC_N2, cNewC_N4, cNewC_N5]]
      | 14, hl =>
        refine ⟨by simp [adnC], fun _ => ?_⟩
        show (.inr (5, [.ref ((adnC ad (cN τ 3) q) 10 (cK (cNewC τ s1 k1 l1 e1) 10 i)), .int (cI (cNewC τ s1 k1 l1 e1) 21 i), va_rf (if cK (cNewC τ s1 k1 l1 e1) 14 i = 0 then none else some ((adnC ad (cN τ 3) q) 15 (cK (cNewC τ s1 k1 l1 e1) 14 i - 1))), .long (cL (cNewC τ s1 k1 l1 e1) 21 i)]) : va_E) = (.inr (5, [.ref (ad 10 (cK τ 10 i)), .int (cI τ 21 i), va_rf (if cK τ 14 i = 0 then none else some (ad 15 (cK τ 14 i - 1))), .long (cL τ 21 i)]) : va_E)
        simp [cNewC_I, cNewC_L, cNewC_K, cNewC_M, cNewC_D, cNewC_N, cNewC_N0, cNewC_N1, cNewC_N2, cNewC_N4, cNewC_N5, adnC]
      | 15, hl =>
        refine ⟨by simp [adnC], fun _ => ?_⟩
        show (.inr (1, [.ref ((adnC ad (cN τ 3) q) 14 (cK (cNewC τ s1 k1 l1 e1) 11 i)), .int (cI (cNewC τ s1 k1 l1 e1) 22 i), .int (cI (cNewC τ s1 k1 l1 e1) 23 i)]) : va_E) = (.inr (1, [.ref (ad 14 (cK τ 11 i)), .int (cI τ 22 i), .int (cI τ 23 i)]) : va_E)
        simp [cNewC_I, cNewC_L, cNewC_K, cNewC_M, cNewC_D, cNewC_N, cNewC_N0, cNewC_N1, cNewC_N2, cNewC_N4, cNewC_N5, adnC]
      | 16, hl =>
        have hl2 : i < cN τ 3 := hl
        have h8 : ¬ i = cN τ 3 := by omega
        refine ⟨by simp [adnC, h8], fun _ => ?_⟩
        show (.inr (0, [.ref ((adnC ad (cN τ 3) q) 14 (cK (cNewC τ s1 k1 l1 e1) 12 i)), .int (nI (cK (cNewC τ s1 k1 l1 e1) 15 i)), .ref ((adnC ad (cN τ 3) q) 17 (cK (cNewC τ s1 k1 l1 e1) 13 i)), .int (cI (cNewC τ s1 k1 l1 e1) 24 i), .int (cI (cNewC τ s1 k1 l1 e1) 25 i), .int (cI (cNewC τ s1 k1 l1 e1) 26 i), .int (cI (cNewC τ s1 k1 l1 e1) 27 i), .int (cI (cNewC τ s1 k1 l1 e1) 28 i)]) : va_E) = (.inr (0, [.ref (ad 14 (cK τ 12 i)), .int (nI (cK τ 15 i)), .ref (ad 17 (cK τ 13 i)), .int (cI τ 24 i), .int (cI τ 25 i), .int (cI τ 26 i), .int (cI τ 27 i), .int (cI τ 28 i)]) : va_E)
        simp [cNewC_I, cNewC_L, cNewC_K, cNewC_M, cNewC_D, cNewC_N, cNewC_N0, cNewC_N1, cNewC_N2, cNewC_N4, cNewC_N5, adnC, h8]
      | 17, hl =>
        refine ⟨by simp [adnC], fun _ => ?_⟩
        show (.inr (2, [.int (cI (cNewC τ s1 k1 l1 e1) 29 i), .int (nI (cK (cNewC τ s1 k1 l1 e1) 16 i)), .int (cI (cNewC τ s1 k1 l1 e1) 30 i)]) : va_E) = (.inr (2, [.int (cI τ 29 i), .int (nI (cK τ 16 i)), .int (cI τ 30 i)]) : va_E)
        simp [cNewC_I, cNewC_L, cNewC_K, cNewC_M, cNewC_D, cNewC_N, cNewC_N0, cNewC_N1, cNewC_N2, cNewC_N4, cNewC_N5, adnC]
      | 18, hl =>
        refine ⟨by simp [adnC], fun _ => ?_⟩
        show (.inr (6, [.int (cI (cNewC τ s1 k1 l1 e1) 31 i), .int (cI (cNewC τ s1 k1 l1 e1) 32 i), .int (cI (cNewC τ s1 k1 l1 e1) 33 i), .int (cI (cNewC τ s1 k1 l1 e1) 34 i), .int (cI (cNewC τ s1 k1 l1 e1) 35 i), .int (cI (cNewC τ s1 k1 l1 e1) 36 i), .int (cI (cNewC τ s1 k1 l1 e1) 37 i)]) : va_E) = (.inr (6, [.int (cI τ 31 i), .int (cI τ 32 i), .int (cI τ 33 i), .int (cI τ 34 i), .int (cI τ 35 i), .int (cI τ 36 i), .int (cI τ 37 i)]) : va_E)
        simp [cNewC_I, cNewC_L, cNewC_K, cNewC_M, cNewC_D, cNewC_N, cNewC_N0, cNewC_N1, cNewC_N2, cNewC_N4, cNewC_N5, adnC]
    · obtain ⟨f1, f2, f3, f4, f5, f6⟩ := hR.2.2.2.2
      refine ⟨fun b hb => ?_, fun b hb => ?_, fun b hb => ?_, fun b hb => ?_, fun b hb => ?_, fun b hb => ?_⟩
      · rw [cNewC_N0] at hb; rw [adnC_k (by decide)]; exact f1 b hb
      · rw [cNewC_N1] at hb; rw [adnC_k (by decide)]; exact f2 b hb
      · rw [cNewC_N2] at hb; rw [adnC_k (by decide)]; exact f3 b hb
      · rw [cNewC_N] at hb
        by_cases hbj : b = (cN τ 3)
        · subst hbj; rw [adnC_16]; exact hj
        · rw [adnC_o hbj]; exact f4 b (by omega)
      · rw [cNewC_N4] at hb; rw [adnC_k (by decide)]; exact f5 b hb
      · rw [adnC_k (by decide)]; exact f6 b hb
  · intro K i hl
    match K, hl with
    | 0, hl => exact adnC_k (by decide)
    | 1, hl => exact adnC_k (by decide)
    | 2, hl => exact adnC_k (by decide)
    | 3, hl => exact adnC_k (by decide)
    | 4, hl => exact adnC_k (by decide)
    | 5, hl => exact adnC_k (by decide)
    | 6, hl => exact adnC_k (by decide)
    | 7, hl => exact adnC_k (by decide)
    | 8, hl => exact adnC_k (by decide)
    | 9, hl => exact adnC_k (by decide)
    | 10, hl => exact adnC_k (by decide)
    | 11, hl => exact adnC_k (by decide)
    | 12, hl => exact adnC_k (by decide)
    | 13, hl => exact adnC_k (by decide)
    | 14, hl => exact adnC_k (by decide)
    | 15, hl => exact adnC_k (by decide)
    | 16, hl => exact adnC_o (by have h1 : i < cN τ 3 := hl; omega)
    | 17, hl => exact adnC_k (by decide)
    | 18, hl => exact adnC_k (by decide)
def adnV (ad : Nat → Nat → Nat) (j q : Nat) (K i : Nat) : Nat := if K = 17 ∧ i = j then q else ad K i
theorem adnV_17 {ad : Nat → Nat → Nat} {j q : Nat} : adnV ad j q 17 j = q := by simp [adnV]
theorem adnV_o {ad : Nat → Nat → Nat} {j q K i : Nat} (h : i ≠ j) : adnV ad j q K i = ad K i := by simp [adnV, h]
theorem adnV_k {ad : Nat → Nat → Nat} {j q K i : Nat} (h : K ≠ 17) : adnV ad j q K i = ad K i := by simp [adnV, h]
set_option maxHeartbeats 4000000 in
theorem RC.gV {E : Nat → ClassId} {Pr : Nat → Prop} {τ : CT} {ad : Nat → Nat → Nat} {fa : Nat → Nat → Option Nat} {h : XW} (hR : RC E Pr τ ad fa h) (hW : CW τ) {d1 : Nat} {q : Nat} (hj : fa 5 (cN τ 4) = some q) (g_q : h q = some (.inr (2, [.int (nI (cN τ 4)), .int (nI d1), .int 0]))) (n_q : (∀ K i, clive τ K i → ad K i ≠ q) ∧ ¬ Pr q) : ∃ ad1 : Nat → Nat → Nat, RC E Pr (cNewV τ d1) ad1 fa (hset h (ad 0 0) (.inr (7, [.ref (ad 1 0), .ref (ad 2 0), .ref (ad 3 0), .ref (ad 4 0), .ref (ad 5 0), .ref (ad 6 0), .ref (ad 7 0), .int (nI (cN τ 0)), .int (nI (cN τ 1)), .int (nI (cN τ 2)), .int (nI (cN τ 3)), .int (nI (cN τ 4 + 1)), .int (nI (cN τ 5)), .long (cL τ 0 0)]))) ∧ (∀ K i, clive τ K i → ad1 K i = ad K i) ∧ ad1 17 (cN τ 4) = q := by
  refine ⟨(adnV ad (cN τ 4) q), ?_, ?_, adnV_17⟩
  · refine hR.grow (τ1 := (cNewV τ d1)) ?_ ?_ ?_ ?_ ?_ ?_
    · show _ = (.inr (7, [.ref ((adnV ad (cN τ 4) q) 1 0), .ref ((adnV ad (cN τ 4) q) 2 0), .ref ((adnV ad (cN τ 4) q) 3 0), .ref ((adnV ad (cN τ 4) q) 4 0), .ref ((adnV ad (cN τ 4) q) 5 0), .ref ((adnV ad (cN τ 4) q) 6 0), .ref ((adnV ad (cN τ 4) q) 7 0), .int (nI (cN (cNewV τ d1) 0)), .int (nI (cN (cNewV τ d1) 1)), .int (nI (cN (cNewV τ d1) 2)), .int (nI (cN (cNewV τ d1) 3)), .int (nI (cN (cNewV τ d1) 4)), .int (nI (cN (cNewV τ d1) 5)), .long (cL (cNewV τ d1) 0 0)]) : va_E)
      simp [cNewV_I, cNewV_L, cNewV_K, cNewV_M, cNewV_D, cNewV_N, cNewV_N0, cNewV_N1, cNewV_N2, cNewV_N3, cNewV_N5, adnV]
    · intro K i hl
      match K, hl with
      | 0, hl => exact hl
      | 1, hl => exact hl
      | 2, hl => exact hl
      | 3, hl => exact hl
      | 4, hl => exact hl
      | 5, hl => exact hl
      | 6, hl => exact hl
      | 7, hl => exact hl
      | 8, hl => exact hl
      | 9, hl => exact hl
      | 10, hl => exact (show i < cN (cNewV τ d1) 0 by have h1 : i < cN τ 0 := hl; simp only [cNewV_I, cNewV_L, cNewV_K, cNewV_M, cNewV_D, cNewV_N, cNewV_N0, cNewV_N1, cNewV_N2, cNewV_N3, cNewV_N5]; omega)
      | 11, hl => exact (show i < cN (cNewV τ d1) 0 by have h1 : i < cN τ 0 := hl; simp only [cNewV_I, cNewV_L, cNewV_K, cNewV_M, cNewV_D, cNewV_N, cNewV_N0, cNewV_N1, cNewV_N2, cNewV_N3, cNewV_N5]; omega)
      | 12, hl => exact (show i < cN (cNewV τ d1) 0 by have h1 : i < cN τ 0 := hl; simp only [cNewV_I, cNewV_L, cNewV_K, cNewV_M, cNewV_D, cNewV_N, cNewV_N0, cNewV_N1, cNewV_N2, cNewV_N3, cNewV_N5]; omega)
      | 13, hl => exact (show i < cN (cNewV τ d1) 0 by have h1 : i < cN τ 0 := hl; simp only [cNewV_I, cNewV_L, cNewV_K, cNewV_M, cNewV_D, cNewV_N, cNewV_N0, cNewV_N1, cNewV_N2, cNewV_N3, cNewV_N5]; omega)
      | 14, hl => exact (show i < cN (cNewV τ d1) 1 by have h1 : i < cN τ 1 := hl; simp only [cNewV_I, cNewV_L, cNewV_K, cNewV_M, cNewV_D, cNewV_N, cNewV_N0, cNewV_N1, cNewV_N2, cNewV_N3, cNewV_N5]; omega)
      | 15, hl => exact (show i < cN (cNewV τ d1) 2 by have h1 : i < cN τ 2 := hl; simp only [cNewV_I, cNewV_L, cNewV_K, cNewV_M, cNewV_D, cNewV_N, cNewV_N0, cNewV_N1, cNewV_N2, cNewV_N3, cNewV_N5]; omega)
      | 16, hl => exact (show i < cN (cNewV τ d1) 3 by have h1 : i < cN τ 3 := hl; simp only [cNewV_I, cNewV_L, cNewV_K, cNewV_M, cNewV_D, cNewV_N, cNewV_N0, cNewV_N1, cNewV_N2, cNewV_N3, cNewV_N5]; omega)
      | 17, hl => exact (show i < cN (cNewV τ d1) 4 by have h1 : i < cN τ 4 := hl; simp only [cNewV_I, cNewV_L, cNewV_K, cNewV_M, cNewV_D, cNewV_N, cNewV_N0, cNewV_N1, cNewV_N2, cNewV_N3, cNewV_N5]; omega)
      | 18, hl => exact hl
    · intro K i hl hn
      match K, hl, hn with
      | 0, hl, hn => exact absurd hl hn
      | 1, hl, hn => exact absurd hl hn
      | 2, hl, hn => exact absurd hl hn
      | 3, hl, hn => exact absurd hl hn
      | 4, hl, hn => exact absurd hl hn
      | 5, hl, hn => exact absurd hl hn
      | 6, hl, hn => exact absurd hl hn
      | 7, hl, hn => exact absurd hl hn
      | 8, hl, hn => exact absurd hl hn
      | 9, hl, hn => exact absurd hl hn
      | 10, hl, hn => exact absurd (show i < cN τ 0 by have h1 : i < cN (cNewV τ d1) 0 := hl; simp only [cNewV_I, cNewV_L, cNewV_K, cNewV_M, cNewV_D, cNewV_N, cNewV_N0, cNewV_N1, cNewV_N2, cNewV_N3, cNewV_N5] at h1; omega) hn
      | 11, hl, hn => exact absurd (show i < cN τ 0 by have h1 : i < cN (cNewV τ d1) 0 := hl; simp only [cNewV_I, cNewV_L, cNewV_K, cNewV_M, cNewV_D, cNewV_N, cNewV_N0, cNewV_N1, cNewV_N2, cNewV_N3, cNewV_N5] at h1; omega) hn
      | 12, hl, hn => exact absurd (show i < cN τ 0 by have h1 : i < cN (cNewV τ d1) 0 := hl; simp only [cNewV_I, cNewV_L, cNewV_K, cNewV_M, cNewV_D, cNewV_N, cNewV_N0, cNewV_N1, cNewV_N2, cNewV_N3, cNewV_N5] at h1; omega) hn
      | 13, hl, hn => exact absurd (show i < cN τ 0 by have h1 : i < cN (cNewV τ d1) 0 := hl; simp only [cNewV_I, cNewV_L, cNewV_K, cNewV_M, cNewV_D, cNewV_N, cNewV_N0, cNewV_N1, cNewV_N2, cNewV_N3, cNewV_N5] at h1; omega) hn
      | 14, hl, hn => exact absurd (show i < cN τ 1 by have h1 : i < cN (cNewV τ d1) 1 := hl; simp only [cNewV_I, cNewV_L, cNewV_K, cNewV_M, cNewV_D, cNewV_N, cNewV_N0, cNewV_N1, cNewV_N2, cNewV_N3, cNewV_N5] at h1; omega) hn
      | 15, hl, hn => exact absurd (show i < cN τ 2 by have h1 : i < cN (cNewV τ d1) 2 := hl; simp only [cNewV_I, cNewV_L, cNewV_K, cNewV_M, cNewV_D, cNewV_N, cNewV_N0, cNewV_N1, cNewV_N2, cNewV_N3, cNewV_N5] at h1; omega) hn
      | 16, hl, hn => exact absurd (show i < cN τ 3 by have h1 : i < cN (cNewV τ d1) 3 := hl; simp only [cNewV_I, cNewV_L, cNewV_K, cNewV_M, cNewV_D, cNewV_N, cNewV_N0, cNewV_N1, cNewV_N2, cNewV_N3, cNewV_N5] at h1; omega) hn
      | 17, hl, hn =>
        have h1 : i < cN (cNewV τ d1) 4 := hl
        have h2 : ¬ i < cN τ 4 := hn
        rw [cNewV_N] at h1
        have h3 : i = (cN τ 4) := by omega
        subst h3
        refine ⟨?_, by rw [adnV_17]; exact n_q.1, by rw [adnV_17]; exact n_q.2⟩
        show h ((adnV ad (cN τ 4) q) 17 (cN τ 4)) = some (.inr (2, [.int (cI (cNewV τ d1) 29 (cN τ 4)), .int (nI (cK (cNewV τ d1) 16 (cN τ 4))), .int (cI (cNewV τ d1) 30 (cN τ 4))]))
        rw [adnV_17, g_q]
        simp [cNewV_I, cNewV_L, cNewV_K, cNewV_M, cNewV_D, cNewV_N, cNewV_N0, cNewV_N1, cNewV_N2, cNewV_N3, cNewV_N5, adnV, va_rf]
      | 18, hl, hn => exact absurd hl hn
    · intro K i K' i' hl hn hl' hn' hz
      have key : ∀ K i, clive (cNewV τ d1) K i → ¬ clive τ K i → i = (cN τ 4) ∧ (K = 17) := by
        intro K i hl hn
        match K, hl, hn with
        | 0, hl, hn => exact absurd hl hn
        | 1, hl, hn => exact absurd hl hn
        | 2, hl, hn => exact absurd hl hn
        | 3, hl, hn => exact absurd hl hn
        | 4, hl, hn => exact absurd hl hn
        | 5, hl, hn => exact absurd hl hn
        | 6, hl, hn => exact absurd hl hn
        | 7, hl, hn => exact absurd hl hn
        | 8, hl, hn => exact absurd hl hn
        | 9, hl, hn => exact absurd hl hn
        | 10, hl, hn => exact absurd (show i < cN τ 0 by have h1 : i < cN (cNewV τ d1) 0 := hl; simp only [cNewV_I, cNewV_L, cNewV_K, cNewV_M, cNewV_D, cNewV_N, cNewV_N0, cNewV_N1, cNewV_N2, cNewV_N3, cNewV_N5] at h1; omega) hn
        | 11, hl, hn => exact absurd (show i < cN τ 0 by have h1 : i < cN (cNewV τ d1) 0 := hl; simp only [cNewV_I, cNewV_L, cNewV_K, cNewV_M, cNewV_D, cNewV_N, cNewV_N0, cNewV_N1, cNewV_N2, cNewV_N3, cNewV_N5] at h1; omega) hn
        | 12, hl, hn => exact absurd (show i < cN τ 0 by have h1 : i < cN (cNewV τ d1) 0 := hl; simp only [cNewV_I, cNewV_L, cNewV_K, cNewV_M, cNewV_D, cNewV_N, cNewV_N0, cNewV_N1, cNewV_N2, cNewV_N3, cNewV_N5] at h1; omega) hn
        | 13, hl, hn => exact absurd (show i < cN τ 0 by have h1 : i < cN (cNewV τ d1) 0 := hl; simp only [cNewV_I, cNewV_L, cNewV_K, cNewV_M, cNewV_D, cNewV_N, cNewV_N0, cNewV_N1, cNewV_N2, cNewV_N3, cNewV_N5] at h1; omega) hn
        | 14, hl, hn => exact absurd (show i < cN τ 1 by have h1 : i < cN (cNewV τ d1) 1 := hl; simp only [cNewV_I, cNewV_L, cNewV_K, cNewV_M, cNewV_D, cNewV_N, cNewV_N0, cNewV_N1, cNewV_N2, cNewV_N3, cNewV_N5] at h1; omega) hn
        | 15, hl, hn => exact absurd (show i < cN τ 2 by have h1 : i < cN (cNewV τ d1) 2 := hl; simp only [cNewV_I, cNewV_L, cNewV_K, cNewV_M, cNewV_D, cNewV_N, cNewV_N0, cNewV_N1, cNewV_N2, cNewV_N3, cNewV_N5] at h1; omega) hn
        | 16, hl, hn => exact absurd (show i < cN τ 3 by have h1 : i < cN (cNewV τ d1) 3 := hl; simp only [cNewV_I, cNewV_L, cNewV_K, cNewV_M, cNewV_D, cNewV_N, cNewV_N0, cNewV_N1, cNewV_N2, cNewV_N3, cNewV_N5] at h1; omega) hn
        | 17, hl, hn =>
          have h1 : i < cN (cNewV τ d1) 4 := hl
          have h2 : ¬ i < cN τ 4 := hn
          rw [cNewV_N] at h1
          exact ⟨by omega, by simp⟩
        | 18, hl, hn => exact absurd hl hn
      obtain ⟨u1, u2⟩ := key K i hl hn
      obtain ⟨v1, v2⟩ := key K' i' hl' hn'
      subst u1; subst v1
      refine ⟨?_, rfl⟩
      rcases u2 with rfl <;> rcases v2 with rfl <;> first | rfl | (simp [adnV] at hz; omega)
    · intro K i hl
      match K, hl with
      | 0, hl => exact ⟨by simp [adnV], fun z => absurd rfl z⟩
      | 1, hl =>
        refine ⟨by simp [adnV], fun _ => ?_⟩
        show (.inl (E 3, 12, .inr (.inr (.inr (.inr (fa 1))))) : va_E) = (.inl (E 3, 12, .inr (.inr (.inr (.inr (fa 1))))) : va_E)
        rfl
      | 2, hl =>
        refine ⟨by simp [adnV], fun _ => ?_⟩
        show (.inl (E 4, 24, .inr (.inr (.inr (.inr (fa 2))))) : va_E) = (.inl (E 4, 24, .inr (.inr (.inr (.inr (fa 2))))) : va_E)
        rfl
      | 3, hl =>
        refine ⟨by simp [adnV], fun _ => ?_⟩
        show (.inl (E 5, 60, .inr (.inr (.inr (.inr (fa 3))))) : va_E) = (.inl (E 5, 60, .inr (.inr (.inr (.inr (fa 3))))) : va_E)
        rfl
      | 4, hl =>
        refine ⟨by simp [adnV], fun _ => ?_⟩
        show (.inl (E 6, 60, .inr (.inr (.inr (.inr (fa 4))))) : va_E) = (.inl (E 6, 60, .inr (.inr (.inr (.inr (fa 4))))) : va_E)
        rfl
      | 5, hl =>
        refine ⟨by simp [adnV], fun _ => ?_⟩
        show (.inl (E 7, 60, .inr (.inr (.inr (.inr (fa 5))))) : va_E) = (.inl (E 7, 60, .inr (.inr (.inr (.inr (fa 5))))) : va_E)
        rfl
      | 6, hl =>
        refine ⟨by simp [adnV], fun _ => ?_⟩
        show (.inl (E 8, 20, .inr (.inr (.inr (.inr (fa 6))))) : va_E) = (.inl (E 8, 20, .inr (.inr (.inr (.inr (fa 6))))) : va_E)
        rfl
      | 7, hl =>
        refine ⟨by simp [adnV], fun _ => ?_⟩
        show (.inr (4, [.ref ((adnV ad (cN τ 4) q) 8 0), .ref ((adnV ad (cN τ 4) q) 9 0)]) : va_E) = (.inr (4, [.ref (ad 8 0), .ref (ad 9 0)]) : va_E)
        simp [cNewV_I, cNewV_L, cNewV_K, cNewV_M, cNewV_D, cNewV_N, cNewV_N0, cNewV_N1, cNewV_N2, cNewV_N3, cNewV_N5, adnV]
      | 8, hl =>
        refine ⟨by simp [adnV], fun _ => ?_⟩
        show (.inl (E 0, 80, .inl (cI (cNewV τ d1) 38)) : va_E) = (.inl (E 0, 80, .inl (cI τ 38)) : va_E)
        rw [show cI (cNewV τ d1) 38 = cI τ 38 from by funext b; simp [cNewV_I, cNewV_L, cNewV_K, cNewV_M, cNewV_D, cNewV_N, cNewV_N0, cNewV_N1, cNewV_N2, cNewV_N3, cNewV_N5]]
      | 9, hl =>
        refine ⟨by simp [adnV], fun _ => ?_⟩
        show (.inl (E 0, 80, .inl (cI (cNewV τ d1) 39)) : va_E) = (.inl (E 0, 80, .inl (cI τ 39)) : va_E)
        rw [show cI (cNewV τ d1) 39 = cI τ 39 from by funext b; simp [cNewV_I, cNewV_L, cNewV_K, cNewV_M, cNewV_D, cNewV_N, cNewV_N0, cNewV_N1, cNewV_N2, cNewV_N3, cNewV_N5]]
      | 10, hl =>
        refine ⟨by simp [adnV], fun _ => ?_⟩
        show (.inr (3, [.ref ((adnV ad (cN τ 4) q) 11 i), .ref ((adnV ad (cN τ 4) q) 12 i), .ref ((adnV ad (cN τ 4) q) 13 i), .long (cL (cNewV τ d1) 20 i), .int (cI (cNewV τ d1) 20 i)]) : va_E) = (.inr (3, [.ref (ad 11 i), .ref (ad 12 i), .ref (ad 13 i), .long (cL τ 20 i), .int (cI τ 20 i)]) : va_E)
        simp [cNewV_I, cNewV_L, cNewV_K, cNewV_M, cNewV_D, cNewV_N, cNewV_N0, cNewV_N1, cNewV_N2, cNewV_N3, cNewV_N5, adnV]
      | 11, hl =>
        refine ⟨by simp [adnV], fun _ => ?_⟩
        show (.inl (E 0, 20, .inl (cM (cNewV τ d1) 0 i)) : va_E) = (.inl (E 0, 20, .inl (cM τ 0 i)) : va_E)
        rw [show cM (cNewV τ d1) 0 i = cM τ 0 i from by funext d; simp [cNewV_I, cNewV_L, cNewV_K, cNewV_M, cNewV_D, cNewV_N, cNewV_N0, cNewV_N1, cNewV_N2, cNewV_N3, cNewV_N5]]
      | 12, hl =>
        refine ⟨by simp [adnV], fun _ => ?_⟩
        show (.inl (E 2, 20, .inl (cM (cNewV τ d1) 1 i)) : va_E) = (.inl (E 2, 20, .inl (cM τ 1 i)) : va_E)
        rw [show cM (cNewV τ d1) 1 i = cM τ 1 i from by funext d; simp [cNewV_I, cNewV_L, cNewV_K, cNewV_M, cNewV_D, cNewV_N, cNewV_N0, cNewV_N1, cNewV_N2, cNewV_N3, cNewV_N5]]
      | 13, hl =>
        refine ⟨by simp [adnV], fun _ => ?_⟩
        show (.inl (E 1, 20, .inr (.inl (cD (cNewV τ d1) i))) : va_E) = (.inl (E 1, 20, .inr (.inl (cD τ i))) : va_E)
        rw [show cD (cNewV τ d1) i = cD τ i from by funext d; simp [cNewV_I, cNewV_L, cNewV_K, cNewV_M, cNewV_D, cNewV_N, cNewV_N0, cNewV_N1, cNewV_N2, cNewV_N3, cNewV_N5]]
      | 14, hl =>
        refine ⟨by simp [adnV], fun _ => ?_⟩
        show (.inr (5, [.ref ((adnV ad (cN τ 4) q) 10 (cK (cNewV τ d1) 10 i)), .int (cI (cNewV τ d1) 21 i), va_rf (if cK (cNewV τ d1) 14 i = 0 then none else some ((adnV ad (cN τ 4) q) 15 (cK (cNewV τ d1) 14 i - 1))), .long (cL (cNewV τ d1) 21 i)]) : va_E) = (.inr (5, [.ref (ad 10 (cK τ 10 i)), .int (cI τ 21 i), va_rf (if cK τ 14 i = 0 then none else some (ad 15 (cK τ 14 i - 1))), .long (cL τ 21 i)]) : va_E)
        simp [cNewV_I, cNewV_L, cNewV_K, cNewV_M, cNewV_D, cNewV_N, cNewV_N0, cNewV_N1, cNewV_N2, cNewV_N3, cNewV_N5, adnV]
      | 15, hl =>
        refine ⟨by simp [adnV], fun _ => ?_⟩
        show (.inr (1, [.ref ((adnV ad (cN τ 4) q) 14 (cK (cNewV τ d1) 11 i)), .int (cI (cNewV τ d1) 22 i), .int (cI (cNewV τ d1) 23 i)]) : va_E) = (.inr (1, [.ref (ad 14 (cK τ 11 i)), .int (cI τ 22 i), .int (cI τ 23 i)]) : va_E)
        simp [cNewV_I, cNewV_L, cNewV_K, cNewV_M, cNewV_D, cNewV_N, cNewV_N0, cNewV_N1, cNewV_N2, cNewV_N3, cNewV_N5, adnV]
      | 16, hl =>
        have h9 : ¬ cK τ 13 i = cN τ 4 := by have := hW.2.2.2.2.1 i hl; omega
        refine ⟨by simp [adnV], fun _ => ?_⟩
        show (.inr (0, [.ref ((adnV ad (cN τ 4) q) 14 (cK (cNewV τ d1) 12 i)), .int (nI (cK (cNewV τ d1) 15 i)), .ref ((adnV ad (cN τ 4) q) 17 (cK (cNewV τ d1) 13 i)), .int (cI (cNewV τ d1) 24 i), .int (cI (cNewV τ d1) 25 i), .int (cI (cNewV τ d1) 26 i), .int (cI (cNewV τ d1) 27 i), .int (cI (cNewV τ d1) 28 i)]) : va_E) = (.inr (0, [.ref (ad 14 (cK τ 12 i)), .int (nI (cK τ 15 i)), .ref (ad 17 (cK τ 13 i)), .int (cI τ 24 i), .int (cI τ 25 i), .int (cI τ 26 i), .int (cI τ 27 i), .int (cI τ 28 i)]) : va_E)
        simp [cNewV_I, cNewV_L, cNewV_K, cNewV_M, cNewV_D, cNewV_N, cNewV_N0, cNewV_N1, cNewV_N2, cNewV_N3, cNewV_N5, adnV, h9]
      | 17, hl =>
        have hl2 : i < cN τ 4 := hl
        have h8 : ¬ i = cN τ 4 := by omega
        refine ⟨by simp [adnV, h8], fun _ => ?_⟩
        show (.inr (2, [.int (cI (cNewV τ d1) 29 i), .int (nI (cK (cNewV τ d1) 16 i)), .int (cI (cNewV τ d1) 30 i)]) : va_E) = (.inr (2, [.int (cI τ 29 i), .int (nI (cK τ 16 i)), .int (cI τ 30 i)]) : va_E)
        simp [cNewV_I, cNewV_L, cNewV_K, cNewV_M, cNewV_D, cNewV_N, cNewV_N0, cNewV_N1, cNewV_N2, cNewV_N3, cNewV_N5, adnV, h8]
      | 18, hl =>
        refine ⟨by simp [adnV], fun _ => ?_⟩
        show (.inr (6, [.int (cI (cNewV τ d1) 31 i), .int (cI (cNewV τ d1) 32 i), .int (cI (cNewV τ d1) 33 i), .int (cI (cNewV τ d1) 34 i), .int (cI (cNewV τ d1) 35 i), .int (cI (cNewV τ d1) 36 i), .int (cI (cNewV τ d1) 37 i)]) : va_E) = (.inr (6, [.int (cI τ 31 i), .int (cI τ 32 i), .int (cI τ 33 i), .int (cI τ 34 i), .int (cI τ 35 i), .int (cI τ 36 i), .int (cI τ 37 i)]) : va_E)
        simp [cNewV_I, cNewV_L, cNewV_K, cNewV_M, cNewV_D, cNewV_N, cNewV_N0, cNewV_N1, cNewV_N2, cNewV_N3, cNewV_N5, adnV]
    · obtain ⟨f1, f2, f3, f4, f5, f6⟩ := hR.2.2.2.2
      refine ⟨fun b hb => ?_, fun b hb => ?_, fun b hb => ?_, fun b hb => ?_, fun b hb => ?_, fun b hb => ?_⟩
      · rw [cNewV_N0] at hb; rw [adnV_k (by decide)]; exact f1 b hb
      · rw [cNewV_N1] at hb; rw [adnV_k (by decide)]; exact f2 b hb
      · rw [cNewV_N2] at hb; rw [adnV_k (by decide)]; exact f3 b hb
      · rw [cNewV_N3] at hb; rw [adnV_k (by decide)]; exact f4 b hb
      · rw [cNewV_N] at hb
        by_cases hbj : b = (cN τ 4)
        · subst hbj; rw [adnV_17]; exact hj
        · rw [adnV_o hbj]; exact f5 b (by omega)
      · rw [adnV_k (by decide)]; exact f6 b hb
  · intro K i hl
    match K, hl with
    | 0, hl => exact adnV_k (by decide)
    | 1, hl => exact adnV_k (by decide)
    | 2, hl => exact adnV_k (by decide)
    | 3, hl => exact adnV_k (by decide)
    | 4, hl => exact adnV_k (by decide)
    | 5, hl => exact adnV_k (by decide)
    | 6, hl => exact adnV_k (by decide)
    | 7, hl => exact adnV_k (by decide)
    | 8, hl => exact adnV_k (by decide)
    | 9, hl => exact adnV_k (by decide)
    | 10, hl => exact adnV_k (by decide)
    | 11, hl => exact adnV_k (by decide)
    | 12, hl => exact adnV_k (by decide)
    | 13, hl => exact adnV_k (by decide)
    | 14, hl => exact adnV_k (by decide)
    | 15, hl => exact adnV_k (by decide)
    | 16, hl => exact adnV_k (by decide)
    | 17, hl => exact adnV_o (by have h1 : i < cN τ 4 := hl; omega)
    | 18, hl => exact adnV_k (by decide)
theorem CW.newM {τ : CT} (hW : CW τ) (h1 : cN τ 0 < 12) : CW (cNewM τ) := by
  obtain ⟨a1, a2, a3, a4, a5, a6, a7, a8, b1, b2, b3, b4, b5, b6⟩ := hW
  refine ⟨?_, ?_, ?_, ?_, ?_, ?_, ?_, ?_, ?_, ?_, ?_, ?_, ?_, ?_⟩
  · simp only [cNewM_I, cNewM_L, cNewM_K, cNewM_M, cNewM_D, cNewM_N, cNewM_N1, cNewM_N2, cNewM_N3, cNewM_N4, cNewM_N5]; omega
  · intro i hi; simp only [cNewM_I, cNewM_L, cNewM_K, cNewM_M, cNewM_D, cNewM_N, cNewM_N1, cNewM_N2, cNewM_N3, cNewM_N4, cNewM_N5] at hi ⊢
    by_cases hij : i = cN τ 0
    · first | exact a2 i hi | (simp [hij]; omega) | (simp [hij]; done) | (simp [hij]; exact a2 _ (by omega)) | (have h9 := a2 i (by omega); simp; omega)
    · have h9 := a2 i (by omega); simp [hij]; omega
  · intro i hi; simp only [cNewM_I, cNewM_L, cNewM_K, cNewM_M, cNewM_D, cNewM_N, cNewM_N1, cNewM_N2, cNewM_N3, cNewM_N4, cNewM_N5] at hi ⊢
    by_cases hij : i = cN τ 0
    · first | exact a3 i hi | (simp [hij]; omega) | (simp [hij]; done) | (simp [hij]; exact a3 _ (by omega)) | (have h9 := a3 i (by omega); simp; omega)
    · have h9 := a3 i (by omega); simp [hij]; omega
  · intro i hi; simp only [cNewM_I, cNewM_L, cNewM_K, cNewM_M, cNewM_D, cNewM_N, cNewM_N1, cNewM_N2, cNewM_N3, cNewM_N4, cNewM_N5] at hi ⊢
    by_cases hij : i = cN τ 0
    · first | exact a4 i hi | (simp [hij]; omega) | (simp [hij]; done) | (simp [hij]; exact a4 _ (by omega)) | (have h9 := a4 i (by omega); simp; omega)
    · have h9 := a4 i (by omega); simp [hij]; omega
  · intro i hi; simp only [cNewM_I, cNewM_L, cNewM_K, cNewM_M, cNewM_D, cNewM_N, cNewM_N1, cNewM_N2, cNewM_N3, cNewM_N4, cNewM_N5] at hi ⊢
    by_cases hij : i = cN τ 0
    · first | exact a5 i hi | (simp [hij]; omega) | (simp [hij]; done) | (simp [hij]; exact a5 _ (by omega)) | (have h9 := a5 i (by omega); simp; omega)
    · have h9 := a5 i (by omega); simp [hij]; omega
  · intro i hi; simp only [cNewM_I, cNewM_L, cNewM_K, cNewM_M, cNewM_D, cNewM_N, cNewM_N1, cNewM_N2, cNewM_N3, cNewM_N4, cNewM_N5] at hi ⊢
    by_cases hij : i = cN τ 0
    · first | exact a6 i hi | (simp [hij]; omega) | (simp [hij]; done) | (simp [hij]; exact a6 _ (by omega)) | (have h9 := a6 i (by omega); simp; omega)
    · have h9 := a6 i (by omega); simp [hij]; omega
  · intro i hi; simp only [cNewM_I, cNewM_L, cNewM_K, cNewM_M, cNewM_D, cNewM_N, cNewM_N1, cNewM_N2, cNewM_N3, cNewM_N4, cNewM_N5] at hi ⊢
    by_cases hij : i = cN τ 0
    · first | exact a7 i hi | (simp [hij]; omega) | (simp [hij]; done) | (simp [hij]; exact a7 _ (by omega)) | (have h9 := a7 i (by omega); simp; omega)
    · have h9 := a7 i (by omega); simp [hij]; omega
  · intro i hi; simp only [cNewM_I, cNewM_L, cNewM_K, cNewM_M, cNewM_D, cNewM_N, cNewM_N1, cNewM_N2, cNewM_N3, cNewM_N4, cNewM_N5] at hi ⊢
    by_cases hij : i = cN τ 0
    · first | exact a8 i hi | (simp [hij]; omega) | (simp [hij]; done) | (simp [hij]; exact a8 _ (by omega)) | (have h9 := a8 i (by omega); simp; omega)
    · have h9 := a8 i (by omega); simp [hij]; omega
  · intro m y; simp only [cNewM_I, cNewM_L, cNewM_K, cNewM_M, cNewM_D, cNewM_N, cNewM_N1, cNewM_N2, cNewM_N3, cNewM_N4, cNewM_N5]; first | exact b1 m y | ((repeat' split) <;> first | exact b1 m y | (left; rfl) | (have := b1 m y; omega) | simp_all)
  · intro i; simp only [cNewM_I, cNewM_L, cNewM_K, cNewM_M, cNewM_D, cNewM_N, cNewM_N1, cNewM_N2, cNewM_N3, cNewM_N4, cNewM_N5]; (repeat' split) <;> first | exact b2 i | exact Or.inl rfl | simp_all
  · intro i; simp only [cNewM_I, cNewM_L, cNewM_K, cNewM_M, cNewM_D, cNewM_N, cNewM_N1, cNewM_N2, cNewM_N3, cNewM_N4, cNewM_N5]; (repeat' split) <;> first | exact b3 i | exact Or.inl rfl | simp_all
  · intro i; simp only [cNewM_I, cNewM_L, cNewM_K, cNewM_M, cNewM_D, cNewM_N, cNewM_N1, cNewM_N2, cNewM_N3, cNewM_N4, cNewM_N5]; (repeat' split) <;> first | exact b4 i | exact Or.inl rfl | simp_all
  · intro i; simp only [cNewM_I, cNewM_L, cNewM_K, cNewM_M, cNewM_D, cNewM_N, cNewM_N1, cNewM_N2, cNewM_N3, cNewM_N4, cNewM_N5]; (repeat' split) <;> first | exact b5 i | exact Or.inl rfl | simp_all
  · intro i; simp only [cNewM_I, cNewM_L, cNewM_K, cNewM_M, cNewM_D, cNewM_N, cNewM_N1, cNewM_N2, cNewM_N3, cNewM_N4, cNewM_N5]; (repeat' split) <;> first | exact b6 i | exact Or.inl rfl | simp_all
theorem CW.newS {τ : CT} (hW : CW τ) (o1 : Nat) (t1 : Int32) (h1 : cN τ 1 < 24) (ho : o1 < cN τ 0) : CW (cNewS τ o1 t1) := by
  obtain ⟨a1, a2, a3, a4, a5, a6, a7, a8, b1, b2, b3, b4, b5, b6⟩ := hW
  refine ⟨?_, ?_, ?_, ?_, ?_, ?_, ?_, ?_, ?_, ?_, ?_, ?_, ?_, ?_⟩
  · simp only [cNewS_I, cNewS_L, cNewS_K, cNewS_M, cNewS_D, cNewS_N, cNewS_N0, cNewS_N2, cNewS_N3, cNewS_N4, cNewS_N5]; omega
  · intro i hi; simp only [cNewS_I, cNewS_L, cNewS_K, cNewS_M, cNewS_D, cNewS_N, cNewS_N0, cNewS_N2, cNewS_N3, cNewS_N4, cNewS_N5] at hi ⊢
    by_cases hij : i = cN τ 1
    · first | exact a2 i hi | (simp [hij]; omega) | (simp [hij]; done) | (simp [hij]; exact a2 _ (by omega)) | (have h9 := a2 i (by omega); simp; omega)
    · have h9 := a2 i (by omega); simp [hij]; omega
  · intro i hi; simp only [cNewS_I, cNewS_L, cNewS_K, cNewS_M, cNewS_D, cNewS_N, cNewS_N0, cNewS_N2, cNewS_N3, cNewS_N4, cNewS_N5] at hi ⊢
    by_cases hij : i = cN τ 1
    · first | exact a3 i hi | (simp [hij]; omega) | (simp [hij]; done) | (simp [hij]; exact a3 _ (by omega)) | (have h9 := a3 i (by omega); simp; omega)
    · have h9 := a3 i (by omega); simp [hij]; omega
  · intro i hi; simp only [cNewS_I, cNewS_L, cNewS_K, cNewS_M, cNewS_D, cNewS_N, cNewS_N0, cNewS_N2, cNewS_N3, cNewS_N4, cNewS_N5] at hi ⊢
    by_cases hij : i = cN τ 1
    · first | exact a4 i hi | (simp [hij]; omega) | (simp [hij]; done) | (simp [hij]; exact a4 _ (by omega)) | (have h9 := a4 i (by omega); simp; omega)
    · have h9 := a4 i (by omega); simp [hij]; omega
  · intro i hi; simp only [cNewS_I, cNewS_L, cNewS_K, cNewS_M, cNewS_D, cNewS_N, cNewS_N0, cNewS_N2, cNewS_N3, cNewS_N4, cNewS_N5] at hi ⊢
    by_cases hij : i = cN τ 1
    · first | exact a5 i hi | (simp [hij]; omega) | (simp [hij]; done) | (simp [hij]; exact a5 _ (by omega)) | (have h9 := a5 i (by omega); simp; omega)
    · have h9 := a5 i (by omega); simp [hij]; omega
  · intro i hi; simp only [cNewS_I, cNewS_L, cNewS_K, cNewS_M, cNewS_D, cNewS_N, cNewS_N0, cNewS_N2, cNewS_N3, cNewS_N4, cNewS_N5] at hi ⊢
    by_cases hij : i = cN τ 1
    · first | exact a6 i hi | (simp [hij]; omega) | (simp [hij]; done) | (simp [hij]; exact a6 _ (by omega)) | (have h9 := a6 i (by omega); simp; omega)
    · have h9 := a6 i (by omega); simp [hij]; omega
  · intro i hi; simp only [cNewS_I, cNewS_L, cNewS_K, cNewS_M, cNewS_D, cNewS_N, cNewS_N0, cNewS_N2, cNewS_N3, cNewS_N4, cNewS_N5] at hi ⊢
    by_cases hij : i = cN τ 1
    · first | exact a7 i hi | (simp [hij]; omega) | (simp [hij]; done) | (simp [hij]; exact a7 _ (by omega)) | (have h9 := a7 i (by omega); simp; omega)
    · have h9 := a7 i (by omega); simp [hij]; omega
  · intro i hi; simp only [cNewS_I, cNewS_L, cNewS_K, cNewS_M, cNewS_D, cNewS_N, cNewS_N0, cNewS_N2, cNewS_N3, cNewS_N4, cNewS_N5] at hi ⊢
    by_cases hij : i = cN τ 1
    · first | exact a8 i hi | (simp [hij]; omega) | (simp [hij]; done) | (simp [hij]; exact a8 _ (by omega)) | (have h9 := a8 i (by omega); simp; omega)
    · have h9 := a8 i (by omega); simp [hij]; omega
  · intro m y; simp only [cNewS_I, cNewS_L, cNewS_K, cNewS_M, cNewS_D, cNewS_N, cNewS_N0, cNewS_N2, cNewS_N3, cNewS_N4, cNewS_N5]; first | exact b1 m y | ((repeat' split) <;> first | exact b1 m y | (left; rfl) | (have := b1 m y; omega) | simp_all)
  · intro i; simp only [cNewS_I, cNewS_L, cNewS_K, cNewS_M, cNewS_D, cNewS_N, cNewS_N0, cNewS_N2, cNewS_N3, cNewS_N4, cNewS_N5]; (repeat' split) <;> first | exact b2 i | exact Or.inl rfl | simp_all
  · intro i; simp only [cNewS_I, cNewS_L, cNewS_K, cNewS_M, cNewS_D, cNewS_N, cNewS_N0, cNewS_N2, cNewS_N3, cNewS_N4, cNewS_N5]; (repeat' split) <;> first | exact b3 i | exact Or.inl rfl | simp_all
  · intro i; simp only [cNewS_I, cNewS_L, cNewS_K, cNewS_M, cNewS_D, cNewS_N, cNewS_N0, cNewS_N2, cNewS_N3, cNewS_N4, cNewS_N5]; (repeat' split) <;> first | exact b4 i | exact Or.inl rfl | simp_all
  · intro i; simp only [cNewS_I, cNewS_L, cNewS_K, cNewS_M, cNewS_D, cNewS_N, cNewS_N0, cNewS_N2, cNewS_N3, cNewS_N4, cNewS_N5]; (repeat' split) <;> first | exact b5 i | exact Or.inl rfl | simp_all
  · intro i; simp only [cNewS_I, cNewS_L, cNewS_K, cNewS_M, cNewS_D, cNewS_N, cNewS_N0, cNewS_N2, cNewS_N3, cNewS_N4, cNewS_N5]; (repeat' split) <;> first | exact b6 i | exact Or.inl rfl | simp_all
theorem CW.newE {τ : CT} (hW : CW τ) (s1 : Nat) (d1 : Int32) (h1 : cN τ 2 < 60) (ho : s1 < cN τ 1) : CW (cNewE τ s1 d1) := by
  obtain ⟨a1, a2, a3, a4, a5, a6, a7, a8, b1, b2, b3, b4, b5, b6⟩ := hW
  refine ⟨?_, ?_, ?_, ?_, ?_, ?_, ?_, ?_, ?_, ?_, ?_, ?_, ?_, ?_⟩
  · simp only [cNewE_I, cNewE_L, cNewE_K, cNewE_M, cNewE_D, cNewE_N, cNewE_N0, cNewE_N1, cNewE_N3, cNewE_N4, cNewE_N5]; omega
  · intro i hi; simp only [cNewE_I, cNewE_L, cNewE_K, cNewE_M, cNewE_D, cNewE_N, cNewE_N0, cNewE_N1, cNewE_N3, cNewE_N4, cNewE_N5] at hi ⊢
    by_cases hij : i = cN τ 2
    · first | exact a2 i hi | (simp [hij]; omega) | (simp [hij]; done) | (simp [hij]; exact a2 _ (by omega)) | (have h9 := a2 i (by omega); simp; omega)
    · have h9 := a2 i (by omega); simp [hij]; omega
  · intro i hi; simp only [cNewE_I, cNewE_L, cNewE_K, cNewE_M, cNewE_D, cNewE_N, cNewE_N0, cNewE_N1, cNewE_N3, cNewE_N4, cNewE_N5] at hi ⊢
    by_cases hij : i = cN τ 2
    · first | exact a3 i hi | (simp [hij]; omega) | (simp [hij]; done) | (simp [hij]; exact a3 _ (by omega)) | (have h9 := a3 i (by omega); simp; omega)
    · have h9 := a3 i (by omega); simp [hij]; omega
  · intro i hi; simp only [cNewE_I, cNewE_L, cNewE_K, cNewE_M, cNewE_D, cNewE_N, cNewE_N0, cNewE_N1, cNewE_N3, cNewE_N4, cNewE_N5] at hi ⊢
    by_cases hij : i = cN τ 2
    · first | exact a4 i hi | (simp [hij]; omega) | (simp [hij]; done) | (simp [hij]; exact a4 _ (by omega)) | (have h9 := a4 i (by omega); simp; omega)
    · have h9 := a4 i (by omega); simp [hij]; omega
  · intro i hi; simp only [cNewE_I, cNewE_L, cNewE_K, cNewE_M, cNewE_D, cNewE_N, cNewE_N0, cNewE_N1, cNewE_N3, cNewE_N4, cNewE_N5] at hi ⊢
    by_cases hij : i = cN τ 2
    · first | exact a5 i hi | (simp [hij]; omega) | (simp [hij]; done) | (simp [hij]; exact a5 _ (by omega)) | (have h9 := a5 i (by omega); simp; omega)
    · have h9 := a5 i (by omega); simp [hij]; omega
  · intro i hi; simp only [cNewE_I, cNewE_L, cNewE_K, cNewE_M, cNewE_D, cNewE_N, cNewE_N0, cNewE_N1, cNewE_N3, cNewE_N4, cNewE_N5] at hi ⊢
    by_cases hij : i = cN τ 2
    · first | exact a6 i hi | (simp [hij]; omega) | (simp [hij]; done) | (simp [hij]; exact a6 _ (by omega)) | (have h9 := a6 i (by omega); simp; omega)
    · have h9 := a6 i (by omega); simp [hij]; omega
  · intro i hi; simp only [cNewE_I, cNewE_L, cNewE_K, cNewE_M, cNewE_D, cNewE_N, cNewE_N0, cNewE_N1, cNewE_N3, cNewE_N4, cNewE_N5] at hi ⊢
    by_cases hij : i = cN τ 2
    · first | exact a7 i hi | (simp [hij]; omega) | (simp [hij]; done) | (simp [hij]; exact a7 _ (by omega)) | (have h9 := a7 i (by omega); simp; omega)
    · have h9 := a7 i (by omega); simp [hij]; omega
  · intro i hi; simp only [cNewE_I, cNewE_L, cNewE_K, cNewE_M, cNewE_D, cNewE_N, cNewE_N0, cNewE_N1, cNewE_N3, cNewE_N4, cNewE_N5] at hi ⊢
    by_cases hij : i = cN τ 2
    · first | exact a8 i hi | (simp [hij]; omega) | (simp [hij]; done) | (simp [hij]; exact a8 _ (by omega)) | (have h9 := a8 i (by omega); simp; omega)
    · have h9 := a8 i (by omega); simp [hij]; omega
  · intro m y; simp only [cNewE_I, cNewE_L, cNewE_K, cNewE_M, cNewE_D, cNewE_N, cNewE_N0, cNewE_N1, cNewE_N3, cNewE_N4, cNewE_N5]; first | exact b1 m y | ((repeat' split) <;> first | exact b1 m y | (left; rfl) | (have := b1 m y; omega) | simp_all)
  · intro i; simp only [cNewE_I, cNewE_L, cNewE_K, cNewE_M, cNewE_D, cNewE_N, cNewE_N0, cNewE_N1, cNewE_N3, cNewE_N4, cNewE_N5]; (repeat' split) <;> first | exact b2 i | exact Or.inl rfl | simp_all
  · intro i; simp only [cNewE_I, cNewE_L, cNewE_K, cNewE_M, cNewE_D, cNewE_N, cNewE_N0, cNewE_N1, cNewE_N3, cNewE_N4, cNewE_N5]; (repeat' split) <;> first | exact b3 i | exact Or.inl rfl | simp_all
  · intro i; simp only [cNewE_I, cNewE_L, cNewE_K, cNewE_M, cNewE_D, cNewE_N, cNewE_N0, cNewE_N1, cNewE_N3, cNewE_N4, cNewE_N5]; (repeat' split) <;> first | exact b4 i | exact Or.inl rfl | simp_all
  · intro i; simp only [cNewE_I, cNewE_L, cNewE_K, cNewE_M, cNewE_D, cNewE_N, cNewE_N0, cNewE_N1, cNewE_N3, cNewE_N4, cNewE_N5]; (repeat' split) <;> first | exact b5 i | exact Or.inl rfl | simp_all
  · intro i; simp only [cNewE_I, cNewE_L, cNewE_K, cNewE_M, cNewE_D, cNewE_N, cNewE_N0, cNewE_N1, cNewE_N3, cNewE_N4, cNewE_N5]; (repeat' split) <;> first | exact b6 i | exact Or.inl rfl | simp_all
theorem CW.newC {τ : CT} (hW : CW τ) (s1 k1 : Nat) (l1 : Int32) (e1 : Nat) (h1 : cN τ 3 < 60) (ho : s1 < cN τ 1) (hk : k1 < 4) (he : e1 < cN τ 4) : CW (cNewC τ s1 k1 l1 e1) := by
  obtain ⟨a1, a2, a3, a4, a5, a6, a7, a8, b1, b2, b3, b4, b5, b6⟩ := hW
  refine ⟨?_, ?_, ?_, ?_, ?_, ?_, ?_, ?_, ?_, ?_, ?_, ?_, ?_, ?_⟩
  · simp only [cNewC_I, cNewC_L, cNewC_K, cNewC_M, cNewC_D, cNewC_N, cNewC_N0, cNewC_N1, cNewC_N2, cNewC_N4, cNewC_N5]; omega
  · intro i hi; simp only [cNewC_I, cNewC_L, cNewC_K, cNewC_M, cNewC_D, cNewC_N, cNewC_N0, cNewC_N1, cNewC_N2, cNewC_N4, cNewC_N5] at hi ⊢
    by_cases hij : i = cN τ 3
    · first | exact a2 i hi | (simp [hij]; omega) | (simp [hij]; done) | (simp [hij]; exact a2 _ (by omega)) | (have h9 := a2 i (by omega); simp; omega)
    · have h9 := a2 i (by omega); simp [hij]; omega
  · intro i hi; simp only [cNewC_I, cNewC_L, cNewC_K, cNewC_M, cNewC_D, cNewC_N, cNewC_N0, cNewC_N1, cNewC_N2, cNewC_N4, cNewC_N5] at hi ⊢
    by_cases hij : i = cN τ 3
    · first | exact a3 i hi | (simp [hij]; omega) | (simp [hij]; done) | (simp [hij]; exact a3 _ (by omega)) | (have h9 := a3 i (by omega); simp; omega)
    · have h9 := a3 i (by omega); simp [hij]; omega
  · intro i hi; simp only [cNewC_I, cNewC_L, cNewC_K, cNewC_M, cNewC_D, cNewC_N, cNewC_N0, cNewC_N1, cNewC_N2, cNewC_N4, cNewC_N5] at hi ⊢
    by_cases hij : i = cN τ 3
    · first | exact a4 i hi | (simp [hij]; omega) | (simp [hij]; done) | (simp [hij]; exact a4 _ (by omega)) | (have h9 := a4 i (by omega); simp; omega)
    · have h9 := a4 i (by omega); simp [hij]; omega
  · intro i hi; simp only [cNewC_I, cNewC_L, cNewC_K, cNewC_M, cNewC_D, cNewC_N, cNewC_N0, cNewC_N1, cNewC_N2, cNewC_N4, cNewC_N5] at hi ⊢
    by_cases hij : i = cN τ 3
    · first | exact a5 i hi | (simp [hij]; omega) | (simp [hij]; done) | (simp [hij]; exact a5 _ (by omega)) | (have h9 := a5 i (by omega); simp; omega)
    · have h9 := a5 i (by omega); simp [hij]; omega
  · intro i hi; simp only [cNewC_I, cNewC_L, cNewC_K, cNewC_M, cNewC_D, cNewC_N, cNewC_N0, cNewC_N1, cNewC_N2, cNewC_N4, cNewC_N5] at hi ⊢
    by_cases hij : i = cN τ 3
    · first | exact a6 i hi | (simp [hij]; omega) | (simp [hij]; done) | (simp [hij]; exact a6 _ (by omega)) | (have h9 := a6 i (by omega); simp; omega)
    · have h9 := a6 i (by omega); simp [hij]; omega
  · intro i hi; simp only [cNewC_I, cNewC_L, cNewC_K, cNewC_M, cNewC_D, cNewC_N, cNewC_N0, cNewC_N1, cNewC_N2, cNewC_N4, cNewC_N5] at hi ⊢
    by_cases hij : i = cN τ 3
    · first | exact a7 i hi | (simp [hij]; omega) | (simp [hij]; done) | (simp [hij]; exact a7 _ (by omega)) | (have h9 := a7 i (by omega); simp; omega)
    · have h9 := a7 i (by omega); simp [hij]; omega
  · intro i hi; simp only [cNewC_I, cNewC_L, cNewC_K, cNewC_M, cNewC_D, cNewC_N, cNewC_N0, cNewC_N1, cNewC_N2, cNewC_N4, cNewC_N5] at hi ⊢
    by_cases hij : i = cN τ 3
    · first | exact a8 i hi | (simp [hij]; omega) | (simp [hij]; done) | (simp [hij]; exact a8 _ (by omega)) | (have h9 := a8 i (by omega); simp; omega)
    · have h9 := a8 i (by omega); simp [hij]; omega
  · intro m y; simp only [cNewC_I, cNewC_L, cNewC_K, cNewC_M, cNewC_D, cNewC_N, cNewC_N0, cNewC_N1, cNewC_N2, cNewC_N4, cNewC_N5]; first | exact b1 m y | ((repeat' split) <;> first | exact b1 m y | (left; rfl) | (have := b1 m y; omega) | simp_all)
  · intro i; simp only [cNewC_I, cNewC_L, cNewC_K, cNewC_M, cNewC_D, cNewC_N, cNewC_N0, cNewC_N1, cNewC_N2, cNewC_N4, cNewC_N5]; (repeat' split) <;> first | exact b2 i | exact Or.inl rfl | simp_all
  · intro i; simp only [cNewC_I, cNewC_L, cNewC_K, cNewC_M, cNewC_D, cNewC_N, cNewC_N0, cNewC_N1, cNewC_N2, cNewC_N4, cNewC_N5]; (repeat' split) <;> first | exact b3 i | exact Or.inl rfl | simp_all
  · intro i; simp only [cNewC_I, cNewC_L, cNewC_K, cNewC_M, cNewC_D, cNewC_N, cNewC_N0, cNewC_N1, cNewC_N2, cNewC_N4, cNewC_N5]; (repeat' split) <;> first | exact b4 i | exact Or.inl rfl | simp_all
  · intro i; simp only [cNewC_I, cNewC_L, cNewC_K, cNewC_M, cNewC_D, cNewC_N, cNewC_N0, cNewC_N1, cNewC_N2, cNewC_N4, cNewC_N5]; (repeat' split) <;> first | exact b5 i | exact Or.inl rfl | simp_all
  · intro i; simp only [cNewC_I, cNewC_L, cNewC_K, cNewC_M, cNewC_D, cNewC_N, cNewC_N0, cNewC_N1, cNewC_N2, cNewC_N4, cNewC_N5]; (repeat' split) <;> first | exact b6 i | exact Or.inl rfl | simp_all
theorem CW.newV {τ : CT} (hW : CW τ) (d1 : Nat) (h1 : cN τ 4 < 60) (hd : d1 < 2000) : CW (cNewV τ d1) := by
  obtain ⟨a1, a2, a3, a4, a5, a6, a7, a8, b1, b2, b3, b4, b5, b6⟩ := hW
  refine ⟨?_, ?_, ?_, ?_, ?_, ?_, ?_, ?_, ?_, ?_, ?_, ?_, ?_, ?_⟩
  · simp only [cNewV_I, cNewV_L, cNewV_K, cNewV_M, cNewV_D, cNewV_N, cNewV_N0, cNewV_N1, cNewV_N2, cNewV_N3, cNewV_N5]; omega
  · intro i hi; simp only [cNewV_I, cNewV_L, cNewV_K, cNewV_M, cNewV_D, cNewV_N, cNewV_N0, cNewV_N1, cNewV_N2, cNewV_N3, cNewV_N5] at hi ⊢
    by_cases hij : i = cN τ 4
    · first | exact a2 i hi | (simp [hij]; omega) | (simp [hij]; done) | (simp [hij]; exact a2 _ (by omega)) | (have h9 := a2 i (by omega); simp; omega)
    · have h9 := a2 i (by omega); simp [hij]; omega
  · intro i hi; simp only [cNewV_I, cNewV_L, cNewV_K, cNewV_M, cNewV_D, cNewV_N, cNewV_N0, cNewV_N1, cNewV_N2, cNewV_N3, cNewV_N5] at hi ⊢
    by_cases hij : i = cN τ 4
    · first | exact a3 i hi | (simp [hij]; omega) | (simp [hij]; done) | (simp [hij]; exact a3 _ (by omega)) | (have h9 := a3 i (by omega); simp; omega)
    · have h9 := a3 i (by omega); simp [hij]; omega
  · intro i hi; simp only [cNewV_I, cNewV_L, cNewV_K, cNewV_M, cNewV_D, cNewV_N, cNewV_N0, cNewV_N1, cNewV_N2, cNewV_N3, cNewV_N5] at hi ⊢
    by_cases hij : i = cN τ 4
    · first | exact a4 i hi | (simp [hij]; omega) | (simp [hij]; done) | (simp [hij]; exact a4 _ (by omega)) | (have h9 := a4 i (by omega); simp; omega)
    · have h9 := a4 i (by omega); simp [hij]; omega
  · intro i hi; simp only [cNewV_I, cNewV_L, cNewV_K, cNewV_M, cNewV_D, cNewV_N, cNewV_N0, cNewV_N1, cNewV_N2, cNewV_N3, cNewV_N5] at hi ⊢
    by_cases hij : i = cN τ 4
    · first | exact a5 i hi | (simp [hij]; omega) | (simp [hij]; done) | (simp [hij]; exact a5 _ (by omega)) | (have h9 := a5 i (by omega); simp; omega)
    · have h9 := a5 i (by omega); simp [hij]; omega
  · intro i hi; simp only [cNewV_I, cNewV_L, cNewV_K, cNewV_M, cNewV_D, cNewV_N, cNewV_N0, cNewV_N1, cNewV_N2, cNewV_N3, cNewV_N5] at hi ⊢
    by_cases hij : i = cN τ 4
    · first | exact a6 i hi | (simp [hij]; omega) | (simp [hij]; done) | (simp [hij]; exact a6 _ (by omega)) | (have h9 := a6 i (by omega); simp; omega)
    · have h9 := a6 i (by omega); simp [hij]; omega
  · intro i hi; simp only [cNewV_I, cNewV_L, cNewV_K, cNewV_M, cNewV_D, cNewV_N, cNewV_N0, cNewV_N1, cNewV_N2, cNewV_N3, cNewV_N5] at hi ⊢
    by_cases hij : i = cN τ 4
    · first | exact a7 i hi | (simp [hij]; omega) | (simp [hij]; done) | (simp [hij]; exact a7 _ (by omega)) | (have h9 := a7 i (by omega); simp; omega)
    · have h9 := a7 i (by omega); simp [hij]; omega
  · intro i hi; simp only [cNewV_I, cNewV_L, cNewV_K, cNewV_M, cNewV_D, cNewV_N, cNewV_N0, cNewV_N1, cNewV_N2, cNewV_N3, cNewV_N5] at hi ⊢
    by_cases hij : i = cN τ 4
    · first | exact a8 i hi | (simp [hij]; omega) | (simp [hij]; done) | (simp [hij]; exact a8 _ (by omega)) | (have h9 := a8 i (by omega); simp; omega)
    · have h9 := a8 i (by omega); simp [hij]; omega
  · intro m y; simp only [cNewV_I, cNewV_L, cNewV_K, cNewV_M, cNewV_D, cNewV_N, cNewV_N0, cNewV_N1, cNewV_N2, cNewV_N3, cNewV_N5]; first | exact b1 m y | ((repeat' split) <;> first | exact b1 m y | (left; rfl) | (have := b1 m y; omega) | simp_all)
  · intro i; simp only [cNewV_I, cNewV_L, cNewV_K, cNewV_M, cNewV_D, cNewV_N, cNewV_N0, cNewV_N1, cNewV_N2, cNewV_N3, cNewV_N5]; (repeat' split) <;> first | exact b2 i | exact Or.inl rfl | simp_all
  · intro i; simp only [cNewV_I, cNewV_L, cNewV_K, cNewV_M, cNewV_D, cNewV_N, cNewV_N0, cNewV_N1, cNewV_N2, cNewV_N3, cNewV_N5]; (repeat' split) <;> first | exact b3 i | exact Or.inl rfl | simp_all
  · intro i; simp only [cNewV_I, cNewV_L, cNewV_K, cNewV_M, cNewV_D, cNewV_N, cNewV_N0, cNewV_N1, cNewV_N2, cNewV_N3, cNewV_N5]; (repeat' split) <;> first | exact b4 i | exact Or.inl rfl | simp_all
  · intro i; simp only [cNewV_I, cNewV_L, cNewV_K, cNewV_M, cNewV_D, cNewV_N, cNewV_N0, cNewV_N1, cNewV_N2, cNewV_N3, cNewV_N5]; (repeat' split) <;> first | exact b5 i | exact Or.inl rfl | simp_all
  · intro i; simp only [cNewV_I, cNewV_L, cNewV_K, cNewV_M, cNewV_D, cNewV_N, cNewV_N0, cNewV_N1, cNewV_N2, cNewV_N3, cNewV_N5]; (repeat' split) <;> first | exact b6 i | exact Or.inl rfl | simp_all
