/-! what the law asks behind each act -/
section JOB
variable {t : Nat} {σ : LT} {τ : CT} {q12 : Int64} {n14 n15 n16 n17 : Nat}
theorem x_weight (hJ : J t σ τ q12 n14 n15 n16 n17) (hW : LW σ) {m y : Nat} (hm : m < 3) (hy : y < 3) : fX7_weight τ (nI m) (nI y) = .inr (fL_weight σ n14 m y) := by
  unfold fX7_weight
  rw [p_member (by rw [hJ.1.1]; exact hm) (by rw [hJ.1.1]; decide), xb_inr, p_year (by omega), xb_inr, tn_nI (by omega), (w_eq hJ hW hm hy).1]
theorem x_due (hJ : J t σ τ q12 n14 n15 n16 n17) (hW : LW σ) {m y : Nat} (hm : m < 3) (hy : y < 3) : fX7_due τ (nI m) (nI y) = .inr (fL_due σ n14 m y) := by
  unfold fX7_due
  rw [p_member (by rw [hJ.1.1]; exact hm) (by rw [hJ.1.1]; decide), xb_inr, p_year (by omega), xb_inr, tn_nI (by omega), d_eq hJ hW hm hy]
theorem x_owes (hJ : J t σ τ q12 n14 n15 n16 n17) (hW : LW σ) {m : Nat} (hm : m < 3) : fX7_owes τ (nI m) = .inr (lOwes σ n14 m) := by
  unfold fX7_owes
  rw [p_member (by rw [hJ.1.1]; exact hm) (by rw [hJ.1.1]; decide), xb_inr, o_eq hJ hW hm]
theorem x_cost (hJ : J t σ τ q12 n14 n15 n16 n17) (hW : LW σ) (hC : CW τ) {y : Nat} (hy : y < 3) : fX7_cost τ (nI y) = .inr (fL_cost σ n14 n15 n16 y) := by
  unfold fX7_cost
  rw [p_year (by omega), xb_inr, tn_nI (by omega), (c_eq hJ hW hC hy).1]
theorem x_closed (hJ : J t σ τ q12 n14 n15 n16 n17) (hC : CW τ) {y : Nat} (hy : y < 3) : fX7_isClosed τ (nI y) = .inr (if lF σ ≤ y then nI 0 else nI 1) := by
  obtain ⟨-, -, -, -, y5, -⟩ := hJ.2.2.2.2.2.2.2.2.2.2.1.1 y hy
  unfold fX7_isClosed
  rw [p_year (by omega), xb_inr, tn_nI (by omega)]
  congr 1
  by_cases h : lF σ ≤ y
  · rw [if_pos h]; exact y5.mpr h
  · rw [if_neg h]
    rcases hC.2.2.2.2.2.2.2.2.2.2.2.2.1 y with z | z
    · exact absurd (y5.mp z) h
    · exact z
theorem x_cov (hJ : J t σ τ q12 n14 n15 n16 n17) (hW : LW σ) (hC : CW τ) {c : Nat} (hc : c < n15) : fX7_ofClaim τ (nI c) (nI 2) = .inr (if fL_covered σ n14 c = 0 then 0 else 1) := by
  have h3 := hJ.1.2.2.2.1
  have hn := hJ.1.2.2.2.2.2.2.2.2.1
  unfold fX7_ofClaim
  rw [p_claim (by omega) (by omega), xb_inr, p_in 2 rfl (by decide) (by decide) (by decide), xb_inr, tn_nI (by decide), if_neg (by decide), if_neg (by decide), if_pos rfl, cov_eq hJ hW hC hc]
  by_cases h : fL_covered σ n14 c = 0
  · rw [if_pos h, if_pos h]
  · rw [if_neg h, if_neg h]
theorem x_bears (hJ : J t σ τ q12 n14 n15 n16 n17) (hW : LW σ) (hC : CW τ) {v : Nat} (hv : v < n16) : fX7_ofEvent τ (nI v) (nI 1) = .inr (fL_bears σ n14 n15 v) := by
  have h4 := hJ.1.2.2.2.2.1
  have hn := hJ.1.2.2.2.2.2.2.2.2.1
  have hn6 := hJ.1.2.2.2.2.2.2.2.2.2.1
  unfold fX7_ofEvent
  rw [p_event (by omega) (by omega), xb_inr, p_in 1 rfl (by decide) (by decide) (by decide), xb_inr, tn_nI (by decide), if_neg (by decide), if_pos rfl, (be_eq hJ hW hC hv).1]
theorem obs_ok (hJ : J t σ τ q12 n14 n15 n16 n17) (hW : LW σ) (hC : CW τ) : fSO σ τ q12 n14 n15 n16 n17 = some (σ, τ, q12, n14, n15, n16, n17) := by
  have L83 : ∀ n k, k + n = 3 → fSO_L2783 σ τ q12 n14 n15 n16 n17 n k = some (σ, τ, q12, n14, n15, n16, n17) := by
    intro n
    induction n with
    | zero =>
      intro k hk
      simp only [fSO_L2783]
      rw [if_pos (show fX7_reserve τ = q12 from hJ.1.2.2.2.2.2.2.1)]
    | succ n ih =>
      intro k hk
      simp only [fSO_L2783, fSO_S2783]
      rw [x_cost hJ hW hC (show k < 3 by omega), lc_inr, if_pos rfl, x_closed hJ hC (show k < 3 by omega), lc_inr]
      unfold fSO_B2841
      rw [if_pos rfl, lb_inl]
      exact ih (k + 1) (by omega)
  have L35 : ∀ n k, k + n = n16 → fSO_L2735 σ τ q12 n14 n15 n16 n17 n k = some (σ, τ, q12, n14, n15, n16, n17) := by
    intro n
    induction n with
    | zero => intro k hk; exact L83 3 0 (by omega)
    | succ n ih =>
      intro k hk
      simp only [fSO_L2735, fSO_S2735]
      rw [x_bears hJ hW hC (show k < n16 by omega), lc_inr, if_pos rfl, lb_inl]
      exact ih (k + 1) (by omega)
  have L84 : ∀ n k, k + n = n15 → fSO_L2684 σ τ q12 n14 n15 n16 n17 n k = some (σ, τ, q12, n14, n15, n16, n17) := by
    intro n
    induction n with
    | zero => intro k hk; exact L35 n16 0 (by omega)
    | succ n ih =>
      intro k hk
      simp only [fSO_L2684, fSO_S2684]
      rw [x_cov hJ hW hC (show k < n15 by omega), lc_inr]
      unfold fSO_B2719
      by_cases h : fL_covered σ n14 k = 0
      · rw [if_pos h, if_pos h, if_pos (show (0 : Int64) = (nI 0).toInt64 by decide), lb_inl]; exact ih (k + 1) (by omega)
      · rw [if_neg h, if_neg h, if_pos (show (1 : Int64) = (nI 1).toInt64 by decide), lb_inl]; exact ih (k + 1) (by omega)
  have L80 : ∀ m, m < 3 → ∀ n k a, k + n = 3 → a = (match k with | 0 => -(lL σ 9 m) | 1 => -(lL σ 9 m) + fL_due σ n14 m 0 | 2 => (-(lL σ 9 m) + fL_due σ n14 m 0) + fL_due σ n14 m 1 | _ => lOwes σ n14 m) → fSO_L2580 σ τ q12 n14 n15 n16 n17 m n k a = .inl () := by
    intro m hm n
    induction n with
    | zero =>
      intro k a hk ha
      have hk : k = 3 := by omega
      subst hk
      simp only [fSO_L2580]
      rw [x_owes hJ hW hm, lc_inr, if_pos (show lOwes σ n14 m = a from ha.symm)]
    | succ n ih =>
      intro k a hk ha
      simp only [fSO_L2580, fSO_S2580]
      rw [x_due hJ hW hm (show k < 3 by omega), lc_inr, if_pos rfl, x_weight hJ hW hm (show k < 3 by omega), lc_inr, if_pos rfl, lb_inl]
      refine ih (k + 1) _ (by omega) ?_
      rcases (show k = 0 ∨ k = 1 ∨ k = 2 by omega) with rfl | rfl | rfl
      · rw [show a = -(lL σ 9 m) from ha]; rfl
      · rw [show a = -(lL σ 9 m) + fL_due σ n14 m 0 from ha]; rfl
      · rw [show a = (-(lL σ 9 m) + fL_due σ n14 m 0) + fL_due σ n14 m 1 from ha]; rfl
  have L63 : ∀ n k, k + n = 3 → fSO_L2563 σ τ q12 n14 n15 n16 n17 n k = some (σ, τ, q12, n14, n15, n16, n17) := by
    intro n
    induction n with
    | zero => intro k hk; exact L84 n15 0 (by omega)
    | succ n ih =>
      intro k hk
      simp only [fSO_L2563, fSO_S2563]
      rw [L80 k (by omega) 3 0 (-(lL σ 9 k)) (by omega) rfl, lb_inl]
      exact ih (k + 1) (by omega)
  exact L63 3 0 (by omega)
end JOB
