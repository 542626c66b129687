section JAE
variable {t : Nat} {σ : LT} {τ : CT} {q12 : Int64} {n14 n15 n16 n17 : Nat}
theorem a_close (hJ : J t σ τ q12 n14 n15 n16 n17) (hW : LW σ) (hC : CW τ) : Aok (t + 1) (fS2026 σ τ q12 n14 n15 n16 n17) := by
  unfold fS2026 fS2026_B2057
  by_cases hF : 3 ≤ lF σ
  · rw [if_pos hF]
    obtain ⟨a1, -, h2, -⟩ := can_law (σ := σ) (τ := τ) (q12 := q12) (n14 := n14) (n15 := n15) (n16 := n16) (n17 := n17) σ τ n15 0 (nI 0) (by omega) (Or.inl rfl)
    rw [h2]
    simp only [fS2026_L2062]
    rw [if_pos hF]
    exact Aok.same hJ rfl
  · have hF' : lF σ < 3 := by omega
    rw [if_neg hF]
    have hv : (if n17 < 100 * lF σ + 100 then nI 0 else nI 1) = 0 ∨ (if n17 < 100 * lF σ + 100 then nI 0 else nI 1) = 1 := by
      by_cases h : n17 < 100 * lF σ + 100
      · rw [if_pos h]; exact Or.inl rfl
      · rw [if_neg h]; exact Or.inr rfl
    obtain ⟨a1, h1, h2, h3⟩ := can_law (σ := σ) (τ := τ) (q12 := q12) (n14 := n14) (n15 := n15) (n16 := n16) (n17 := n17) σ τ n15 0 (if n17 < 100 * lF σ + 100 then nI 0 else nI 1) (by omega) hv
    have hcc := close_can hJ hW hF'
    have hcl : fX7_close τ (nI (lF σ)) = xbindE (fX7_checkClosable τ (lF σ)) (fun _ => fX7_close_L30 τ (nI (lF σ)) (cN (fX7_share τ (lF σ) (fX7_costIn τ (nI (lF σ)) - fX7_dueOfReleased τ (lF σ))) 3) 0 (fX7_share τ (lF σ) (fX7_costIn τ (nI (lF σ)) - fX7_dueOfReleased τ (lF σ)))) := by
      unfold fX7_close
      rw [p_year (by omega), xb_inr, tn_nI (by omega)]
    rw [h2]
    simp only [fS2026_L2062]
    rw [if_neg hF]
    unfold fL_closed
    have hno : a1 = 0 → fX7_checkClosable τ (lF σ) = .inl "java/lang/IllegalStateException" := fun z => by
      rw [hcc]
      by_cases h : n17 < 100 * lF σ + 100
      · rw [if_pos h]
      · rw [if_neg h]
        rcases h3.mp z with q | q
        · rw [if_neg h] at q; exact absurd q n10
        · rcases can_cls hJ hW n15 0 (by omega) with ⟨g1, g2⟩ | ⟨g1, g2⟩
          · exact absurd q g2
          · exact g1
    have hyes : ¬ a1 = 0 → ¬ n17 < 100 * lF σ + 100 ∧ fX7_checkClosable τ (lF σ) = .inr () := fun z => by
      by_cases h : n17 < 100 * lF σ + 100
      · exact absurd (h3.mpr (Or.inl (by rw [if_pos h]; rfl))) z
      · refine ⟨h, ?_⟩
        rw [hcc, if_neg h]
        rcases can_cls hJ hW n15 0 (by omega) with ⟨g1, g2⟩ | ⟨g1, g2⟩
        · exact g1
        · exact absurd (h3.mpr (Or.inr g2)) z
    by_cases hz : a1 = 0
    · rw [hcl, hno hz, show (xbindE (.inl "java/lang/IllegalStateException") (fun _ : Unit => fX7_close_L30 τ (nI (lF σ)) (cN (fX7_share τ (lF σ) (fX7_costIn τ (nI (lF σ)) - fX7_dueOfReleased τ (lF σ))) 3) 0 (fX7_share τ (lF σ) (fX7_costIn τ (nI (lF σ)) - fX7_dueOfReleased τ (lF σ)))) : String ⊕ (Int64 × CT)) = .inl "java/lang/IllegalStateException" from rfl, tr_no, lc_inr]
      unfold fS2026_B2159
      rw [if_pos hz, if_pos rfl, if_pos hz]
      exact Aok.same hJ rfl
    · obtain ⟨g1, g2⟩ := hyes hz
      obtain ⟨τ2, e1, e2⟩ := a_shut hJ hW hC hF' (by omega)
      rw [hcl, g2, xb_inr, e1, tr_ok, lc_inr]
      unfold fS2026_B2159
      rw [if_neg hz, (c_eq hJ hW hC hF').1, if_pos rfl, if_neg hz]
      exact e2
theorem a_act (hJ : J t σ τ q12 n14 n15 n16 n17) (hW : LW σ) (hC : CW τ) (ht : t < 44) (xs : Nat → Int32) (L n18 : Nat) : Aok (t + 1) (fSD xs L n18 σ τ q12 n14 n15 n16 n17) := by
  have h5 : lowN (fL_cell xs L n18 >>> (nI 6 &&& 31)) 5 < 5 := lowN_lt _ (by decide)
  have h3 : lowN (fL_cell xs L n18 >>> (nI 4 &&& 31)) 3 < 3 := lowN_lt _ (by decide)
  have h9 : lowN (fL_cell xs L n18 >>> (nI 9 &&& 31)) 3 < 3 := lowN_lt _ (by decide)
  have B1532 : Aok (t + 1) (fSD_B1532 xs L n18 σ τ q12 n14 n15 n16 n17) := by
    unfold fSD_B1532
    split
    · exact a_nine hJ hW ht _ h3
    · split
      · exact a_close hJ hW hC
      · exact a_pass hJ hW hC _
  have B1309 : Aok (t + 1) (fSD_B1309 xs L n18 σ τ q12 n14 n15 n16 n17) := by
    unfold fSD_B1309
    split
    · split
      · exact B1532
      · exact a_eight hJ _ h3 h9 (by omega)
    · exact B1532
  have B1199 : Aok (t + 1) (fSD_B1199 xs L n18 σ τ q12 n14 n15 n16 n17) := by
    unfold fSD_B1199
    split
    · split
      · exact B1309
      · exact a_pool hJ _ h9 (by omega)
    · exact B1309
  have B1108 : Aok (t + 1) (fSD_B1108 xs L n18 σ τ q12 n14 n15 n16 n17) := by
    unfold fSD_B1108
    split
    · split
      · exact B1199
      · exact a_rule hJ _ h9 (by omega)
    · exact B1199
  have B902 : Aok (t + 1) (fSD_B902 xs L n18 σ τ q12 n14 n15 n16 n17) := by
    unfold fSD_B902
    split
    · split
      · exact B1108
      · exact a_five hJ hW hC _ (by omega)
    · exact B1108
  have B510 : Aok (t + 1) (fSD_B510 xs L n18 σ τ q12 n14 n15 n16 n17) := by
    unfold fSD_B510
    split
    · exact a_leave hJ hW hC h5
    · split
      · exact B902
      · split
        · exact B902
        · exact a_claim hJ hW hC _ _ h5 (by omega)
  unfold fSD
  split
  · exact B510
  · split
    · exact B510
    · exact a_enter hJ hW hC h5 (by omega)
end JAE
