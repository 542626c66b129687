section JAA
variable {t : Nat} {σ : LT} {τ : CT} {q12 : Int64} {n14 n15 n16 n17 : Nat}
theorem one_loop {F : Nat} (hF : F < 3) (σ0 : LT) (τC τs : CT) (w28 x1 q' : Int64) {T : Nat} (hT : ¬ lN T ≤ (0 : Int64)) : ∀ n k a (σk : LT) (τk : CT), k + n = 3 → SX σ τ F σk τk → (∀ m, m < k → pP τ F 7000000000 m σk τk) → (∀ m, k ≤ m → m < 3 → pP τ F 6000000000 m σk τk) →
    ∃ σ1 τ1, fS2170_L2443 σ0 τC q12 n14 n15 n16 n17 F w28 (lN T) q' n k a σk = fS2170_B2506 σ0 τC q12 n14 n15 n16 n17 F w28 q' σ1 ∧ fX7_shareOneEach_L6 τs F x1 n k a τk = τ1 ∧ SX σ τ F σ1 τ1 ∧ ∀ m, m < 3 → pP τ F 7000000000 m σ1 τ1 := by
  intro n
  induction n with
  | zero =>
    intro k a σk τk hk hX hP _
    exact ⟨σk, τk, rfl, rfl, hX, fun m hm => hP m (by omega)⟩
  | succ n ih =>
    intro k a σk τk hk hX hP hU
    simp only [fS2170_L2443, fX7_shareOneEach_L6]
    unfold fS2170_S2443 fX7_shareOneEach_S6
    rw [if_neg hT, (hX.sh k F).1]
    by_cases ha : a ≤ (0 : Int64)
    · rw [if_pos ha, if_pos ha, lb_inr, lb_inr]
      refine ⟨σk, τk, rfl, rfl, hX, fun m hm => ?_⟩
      by_cases h : m < k
      · exact hP m h
      · exact (hU m (by omega) hm).mono (by omega)
    · rw [if_neg ha, if_neg ha, lb_inl, lb_inl]
      have hk3 : k < 3 := by omega
      obtain ⟨hc, hb1, hb2⟩ := hU k (Nat.le_refl _) hk3
      have next : ∀ m, m < k + 1 → pP τ F 7000000000 m σk τk := fun m hm => by
        by_cases h : m < k
        · exact hP m h
        · exact (hU m (by omega) (by omega)).mono (by omega)
      rcases hc with ⟨g1, g2, g3, g4⟩ | ⟨g1, g2, g3, g4⟩ | ⟨g1, g2, g3, g4⟩
      · simp only [g1, if_neg (show ¬ nI 0 = nI 2 by decide), if_pos g3]
        exact ih (k + 1) a σk τk (by omega) hX next (fun m h1 h2 => hU m (by omega) h2)
      · simp only [g1, if_neg (show ¬ nI 1 = nI 2 by decide), if_pos g3]
        exact ih (k + 1) a σk τk (by omega) hX next (fun m h1 h2 => hU m (by omega) h2)
      · simp only [g1, if_true, if_neg g3]
        have hX1 := (hX.step1 (k := k) (cD τk k F + 1)).resolve_right (fun z => z hF)
        have hadd := lE_add (a := lL σk 8 (3 * k + F)) (b := (1 : Int64)) (B := 1) rfl rfl (by omega) (by omega)
        rw [g4] at hX1
        rw [g4]
        refine ih (k + 1) (a - 1) _ _ (by omega) hX1 (fun m hm => ?_) (fun m h1 h2 => (hU m (by omega) h2).far1 (by omega) _)
        by_cases h : m = k
        · rw [h]
          refine ⟨Or.inr (Or.inr ⟨g1, g2, g3, ?_⟩), ?_⟩
          · rw [cSD_D, if_pos ⟨rfl, rfl⟩, lSL_L, if_pos ⟨rfl, rfl⟩]
          · rw [lSL_L, if_pos ⟨rfl, rfl⟩, hadd]; omega
        · exact (next m hm).far1 h _
/-- one member's row before the sharing -/
def bS (σ : LT) (τ : CT) (n14 F : Nat) (W : Nat → Nat) (T m : Nat) (σk : LT) (τk : CT) : Prop := ((lI σk 7 (3 * m + F) = nI 0 ∧ cM τ 1 m F = 0 ∧ cD τk m F = 0 ∧ W m ≤ T) ∨ (lI σk 7 (3 * m + F) = nI 1 ∧ cM τ 1 m F = 1 ∧ cD τk m F = lL σk 8 (3 * m + F))) ∧ -1000000000 ≤ (lL σk 8 (3 * m + F)).toInt ∧ (lL σk 8 (3 * m + F)).toInt ≤ 1000000000 ∧ fL_weight σ n14 m F = lN (W m) ∧ fX7_weightIn τ m F = lN (W m) ∧ W m ≤ 5994000
theorem bS.far {F T : Nat} {W : Nat → Nat} {m k : Nat} {σk : LT} {τk : CT} (h : bS σ τ n14 F W T m σk τk) (hmk : m ≠ k) (v : Int64) (u : Int32) : bS σ τ n14 F W T m (lSI (lSL σk 8 (3 * k + F) v) 7 (3 * k + F) u) (cSD τk k F v) := by
  unfold bS
  rw [lSI_I, if_neg (by omega), show lL (lSI (lSL σk 8 (3 * k + F) v) 7 (3 * k + F) u) 8 (3 * m + F) = lL σk 8 (3 * m + F) from if_neg (by omega), cSD_D, if_neg (by omega)]
  exact h
theorem bS.sh {F T : Nat} {W : Nat → Nat} {m : Nat} {σk : LT} {τk : CT} (h : bS σ τ n14 F W T m σk τk) : (lI σk 7 (3 * m + F) = nI 0 → (fX7_isShared τ m F = 0 ↔ W m = 0)) ∧ (lI σk 7 (3 * m + F) = nI 1 → fX7_isShared τ m F = 0) := by
  obtain ⟨hc, -, -, -, h4, h5⟩ := h
  unfold fX7_isShared
  rw [h4]
  rcases hc with ⟨g1, g2, -⟩ | ⟨g1, g2, -⟩
  · rw [g1, g2, if_pos rfl]
    refine ⟨fun _ => ?_, fun z => absurd z (by decide)⟩
    by_cases h0 : W m = 0
    · rw [if_pos ((lN_le0 (by omega)).mpr h0)]; exact ⟨fun _ => h0, fun _ => rfl⟩
    · rw [if_neg (fun z => h0 ((lN_le0 (by omega)).mp z))]; exact ⟨fun z => absurd z n10, fun z => absurd z h0⟩
  · rw [g1, g2, if_neg (by decide)]
    exact ⟨fun z => absurd z (by decide), fun _ => rfl⟩
theorem bS.pP0 {F T : Nat} {W : Nat → Nat} {m : Nat} {σk : LT} {τk : CT} (h : bS σ τ n14 F W T m σk τk) (hz : fX7_isShared τ m F = 0) (B : Int) (hB : 1000000000 ≤ B) : pP τ F B m σk τk := by
  obtain ⟨hc, h2, h3, -⟩ := h
  refine ⟨?_, by omega, by omega⟩
  rcases hc with ⟨g1, g2, g3, -⟩ | ⟨g1, g2, g3⟩
  · exact Or.inl ⟨g1, g2, hz, g3⟩
  · exact Or.inr (Or.inl ⟨g1, g2, hz, g3⟩)
theorem share_loop {F : Nat} (hF : F < 3) (σ0 : LT) (τC : CT) (w28 X q' : Int64) {T : Nat} {W : Nat → Nat} (h0 : 0 < T) (hT : T ≤ 100000000) (hXb : -5000000000 ≤ X.toInt ∧ X.toInt ≤ 5000000000) (hN : cN τ 0 = 3) : ∀ n k a (σk : LT) (τk : CT), k + n = 3 → SX σ τ F σk τk → (∀ m, m < k → pP τ F 6000000000 m σk τk) → (∀ m, k ≤ m → m < 3 → bS σ τ n14 F W T m σk τk) →
    ∃ σ1 τ1, fS2170_L2323 σ0 τC q12 n14 n15 n16 n17 F w28 X (lN T) q' n k a σk = fS2170_B2506 σ0 τC q12 n14 n15 n16 n17 F w28 q' σ1 ∧ fX7_share_L77 τ F X (lN T) n k a τk = τ1 ∧ SX σ τ F σ1 τ1 ∧ ∀ m, m < 3 → pP τ F 7000000000 m σ1 τ1 := by
  have hTz : ¬ lN T ≤ (0 : Int64) := fun z => by have := (lN_le0 (by omega)).mp z; omega
  intro n
  induction n with
  | zero =>
    intro k a σk τk hk hX hP _
    have e : fX7_share_L77 τ F X (lN T) 0 k a τk = fX7_shareOneEach_L6 τk F a 3 0 a τk := by
      obtain ⟨-, -, -, d, h4, -⟩ := hX
      show fX7_shareOneEach_L6 τk F a (cN τk 0) 0 a τk = _
      rw [show cN τk 0 = 3 by rw [h4]; exact hN]
    rw [e]
    exact one_loop hF σ0 τC τk w28 a q' hTz 3 0 a σk τk rfl hX (fun m hm => by omega) (fun m _ hm => hP m (by omega))
  | succ n ih =>
    intro k a σk τk hk hX hP hU
    have hk3 : k < 3 := by omega
    have hb := hU k (Nat.le_refl _) hk3
    obtain ⟨hsh0, hsh1⟩ := hb.sh
    have hbP := fun z => hb.pP0 z 6000000000 (by decide)
    obtain ⟨hc, h2, h3, h4, h5, h6⟩ := hb
    have e1 : fX7_share_L77 τ F X (lN T) (n + 1) k a τk = fX7_share_L77 τ F X (lN T) n (k + 1) (if fX7_isShared τ k F = 0 then a else a - fJ9_floorDiv_f86c9 (X * lN (W k)) (lN T)) (if fX7_isShared τ k F = 0 then τk else cSD τk k F (fJ9_floorDiv_f86c9 (X * lN (W k)) (lN T))) := by
      show fX7_share_L77 τ F X (lN T) n (k + 1) (if fX7_isShared τk k F = 0 then a else a - fJ9_floorDiv_f86c9 (X * fX7_weightIn τk k F) (lN T)) (if fX7_isShared τk k F = 0 then τk else cSD τk k F (fJ9_floorDiv_f86c9 (X * fX7_weightIn τk k F) (lN T))) = _
      rw [(hX.sh k F).1, (hX.sh k F).2, h5]
    rw [e1]
    simp only [fS2170_L2323]
    unfold fS2170_S2323
    rw [if_neg hTz, hX.w, h4]
    have next : fX7_isShared τ k F = 0 → ∀ m, m < k + 1 → pP τ F 6000000000 m σk τk := fun z m hm => by
      by_cases h : m < k
      · exact hP m h
      · have : m = k := by omega
        rw [this]; exact hbP z
    rcases hc with ⟨g1, g2, g3, g4⟩ | ⟨g1, g2, g3⟩
    · rw [g1, if_neg (show ¬ nI 0 = nI 1 by decide)]
      by_cases hw : W k = 0
      · have hz := (hsh0 g1).mpr hw
        rw [if_pos ((lN_eq0 (by omega)).mpr hw), if_pos hz, if_pos hz, lb_inl]
        exact ih (k + 1) a σk τk (by omega) hX (next hz) (fun m h1 h2 => hU m (by omega) h2)
      · have hz : ¬ fX7_isShared τ k F = 0 := fun z => hw ((hsh0 g1).mp z)
        rw [if_neg (fun z => hw ((lN_eq0 (by omega)).mp z)), if_neg hz, if_neg hz]
        have hd := e_down (X * lN (W k)) h0 (show T < 2 ^ 62 by omega)
        rw [← hd]
        have hdb := dn_b hXb g4 h0 hT
        show ∃ σ1 τ1, lbind (fS2170_B2404 σ0 τC q12 n14 n15 n16 n17 F w28 k a σk (lDown (X * lN (W k)) (lN T))) _ = _ ∧ _
        unfold fS2170_B2404
        rw [lb_inl]
        generalize lDown (X * lN (W k)) (lN T) = D at hdb ⊢
        refine ih (k + 1) (a - D) _ _ (by omega) (hX.step hk3 hF D (nI 2)) (fun m hm => ?_) (fun m h1 h2 => (hU m (by omega) h2).far (by omega) _ _)
        by_cases h : m = k
        · rw [h]
          have e8 : lL (lSI (lSL σk 8 (3 * k + F) D) 7 (3 * k + F) (nI 2)) 8 (3 * k + F) = D := if_pos ⟨rfl, rfl⟩
          refine ⟨Or.inr (Or.inr ⟨by rw [lSI_I, if_pos ⟨rfl, rfl⟩], g2, hz, ?_⟩), ?_⟩
          · rw [cSD_D, if_pos ⟨rfl, rfl⟩, e8]
          · rw [e8]; omega
        · exact (hP m (by omega)).far h _ _
    · have hz := hsh1 g1
      rw [g1, if_pos rfl, if_pos hz, if_pos hz, lb_inl]
      exact ih (k + 1) a σk τk (by omega) hX (next hz) (fun m h1 h2 => hU m (by omega) h2)
end JAA
