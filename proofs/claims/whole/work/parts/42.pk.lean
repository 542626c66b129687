theorem hse_s (τ : CT) (m n k : Nat) : fX7_hasShipEntered_L2 τ m (n + 1) k = if cK τ 10 k = m then (if cK τ 14 k = 0 then fX7_hasShipEntered_L2 τ m n (k + 1) else nI 1) else fX7_hasShipEntered_L2 τ m n (k + 1) := by
  show lbind (fX7_hasShipEntered_S2 τ m k) (fun q => fX7_hasShipEntered_L2 τ m n (k + 1)) = _
  unfold fX7_hasShipEntered_S2
  repeat' split
  all_goals rfl
theorem hse_01 (τ : CT) (m : Nat) : ∀ n k, fX7_hasShipEntered_L2 τ m n k = nI 0 ∨ fX7_hasShipEntered_L2 τ m n k = nI 1 := by
  intro n
  induction n with
  | zero => intro k; exact Or.inl rfl
  | succ n ih =>
    intro k
    rw [hse_s]
    split
    · split
      · exact ih _
      · exact Or.inr rfl
    · exact ih _
theorem rel12_s (σ : MT) (th a1 a2 : Int32) (n k : Nat) (a : Int32) : fX8_release_L12 σ th a1 a2 (n + 1) k a = fX8_release_L12 σ th a1 a2 n (k + 1) (fX8_release_S12 σ th a1 a2 k a) := rfl
theorem rel12_0 (σ : MT) (th a1 a2 : Int32) (k : Nat) (a : Int32) : fX8_release_L12 σ th a1 a2 0 k a = fX8_release_L70 σ th a1 a2 a 20 0 (nI 0) := rfl
theorem rel70_0 (σ : MT) (th a1 a2 e : Int32) (k : Nat) (a : Int32) : fX8_release_L70 σ th a1 a2 e 0 k a = fX8_release_B107 σ th a1 a2 e a := rfl
theorem rel70_s (σ : MT) (th a1 a2 e : Int32) (n k : Nat) (a : Int32) : fX8_release_L70 σ th a1 a2 e (n + 1) k a = if fX8_isMember σ a1 = 0 then fX8_release_B107 σ th a1 a2 e a else fX8_release_L70 σ th a1 a2 e n (k + 1) (if fX8_canRelease σ (tn a1) k = 0 then a + nI 0 else a + nI 1) := by
  show lbind (fX8_release_S70 σ th a1 a2 e k a) (fun q => fX8_release_L70 σ th a1 a2 e n (k + 1) q) = _
  unfold fX8_release_S70
  split <;> rfl
theorem rel152_s (σ : MT) (th a1 a2 w : Int32) (n k : Nat) (σ1 : MT) : fX8_release_L152 σ th a1 a2 w (n + 1) k σ1 = fX8_release_L152 σ th a1 a2 w n (k + 1) (if fX8_canRelease σ1 (tn a1) k = 0 then σ1 else (mSI (mSL σ1 7 (20 * (tn a1) + k) ((fX8_dueOf σ1 (tn a1) k) + (((fX8_base σ1 (tn a1) k) * (nI (tn a2)).toInt64) / (100 : Int64)))) 6 (20 * (tn a1) + k) (nI 1))) := rfl
theorem rel39_s (τ : CT) (a1 a2 : Int32) (m n k : Nat) (a : Int32) (τ1 : CT) : fX7_release_L39 τ a1 a2 m (n + 1) k a τ1 = fX7_release_L39 τ a1 a2 m n (k + 1) (if (fX7_isShared τ1 m k) = 0 then a else (if (cI τ1 33 k) = 0 then (a + 1) else a)) (if (fX7_isShared τ1 m k) = 0 then τ1 else (if (cI τ1 33 k) = 0 then (fX7_releaseFrom τ1 m k (nI (tn a2))) else τ1)) := rfl
theorem rel_no (σ : MT) (th a1 a2 : Int32) (hm : fX8_isMember σ a1 = nI 0) : ∀ n k a, fX8_release_L12 σ th a1 a2 n k a = (nI 0, σ, nI 1) := by
  intro n
  induction n with
  | zero =>
    intro k a
    rw [rel12_0, rel70_s, if_pos (show fX8_isMember σ a1 = 0 from hm)]
    unfold fX8_release_B107
    rw [if_pos (show fX8_isMember σ a1 = 0 from hm)]
  | succ n ih => intro k a; rw [rel12_s]; exact ih _ _
theorem rel_ent {σ : MT} {τ : CT} (hR : Rel σ τ) (hW : CW τ) (th a1 a2 : Int32) {m : Nat} (hm : m < cN τ 0) (ht : tn a1 = m) (hmm : fX8_isMember σ a1 = nI 1) : fX8_release_L12 σ th a1 a2 (mN σ 8) 0 (nI 0) = fX8_release_L70 σ th a1 a2 (fX7_hasShipEntered τ m) 20 0 (nI 0) := by
  have w := hW.1
  obtain ⟨hN, hB, hM, hP, hS, hE, hO, hC, hZ, hA, hV, hw, hU, hY⟩ := hR
  have hmm2 : ¬ fX8_isMember σ a1 = 0 := by rw [hmm]; exact n10
  have L1 : ∀ n k, fX8_release_L12 σ th a1 a2 n k (nI 1) = fX8_release_L70 σ th a1 a2 (nI 1) 20 0 (nI 0) := by
    intro n
    induction n with
    | zero => intro k; rfl
    | succ n ih => intro k; rw [rel12_s]; unfold fX8_release_S12; rw [if_neg n10]; exact ih _
  have L : ∀ n k, k + n = cN τ 1 → fX8_release_L12 σ th a1 a2 n k (nI 0) = fX8_release_L70 σ th a1 a2 (fX7_hasShipEntered_L2 τ m n k) 20 0 (nI 0) := by
    intro n
    induction n with
    | zero => intro k _; rfl
    | succ n ih =>
      intro k hk
      rw [rel12_s, hse_s]
      unfold fX8_release_S12
      have hk1 : k < cN τ 1 := by omega
      have ho := hW.2.1 k hk1
      rw [if_pos n00, if_neg hmm2, (hS k hk1).1, ht]
      obtain ⟨o1, o2⟩ := e_open hN hE hO hW hk1
      have h14 := hW.2.2.2.2.2.1 k hk1
      by_cases h : cK τ 10 k = m
      · rw [if_pos (congrArg nI h), if_pos h]
        by_cases g : cK τ 14 k = 0
        · rw [o1 g, if_pos rfl, if_pos g]; exact ih _ (by omega)
        · rw [o2 g, if_neg (nI_m1 (by omega)), if_neg g]; exact L1 _ _
      · rw [if_neg (by rw [nI_eq (by omega) (by omega)]; exact h), if_neg h]; exact ih _ (by omega)
  unfold fX7_hasShipEntered
  rw [hN.2.2.1]
  exact L _ 0 (by omega)
def cRel (σ : MT) (m : Nat) : Nat → Nat → Nat
  | 0, _ => 0
  | n + 1, k => (if fX8_canRelease σ m k = 0 then 0 else 1) + cRel σ m n (k + 1)
theorem cRel_s (σ : MT) (m n k : Nat) : cRel σ m (n + 1) k = (if fX8_canRelease σ m k = 0 then 0 else 1) + cRel σ m n (k + 1) := rfl
theorem cRel_le (σ : MT) (m : Nat) : ∀ n k, cRel σ m n k ≤ n := by
  intro n
  induction n with
  | zero => intro k; exact Nat.le_refl _
  | succ n ih => intro k; have := ih (k + 1); simp only [cRel]; split <;> omega
theorem rel_cnt (σ : MT) (th a1 a2 e : Int32) (hmm : fX8_isMember σ a1 = nI 1) : ∀ n k a, fX8_release_L70 σ th a1 a2 e n k (nI a) = fX8_release_B107 σ th a1 a2 e (nI (a + cRel σ (tn a1) n k)) := by
  have hmm2 : ¬ fX8_isMember σ a1 = 0 := by rw [hmm]; exact n10
  intro n
  induction n with
  | zero => intro k a; rfl
  | succ n ih =>
    intro k a
    rw [rel70_s, if_neg hmm2]
    simp only [cRel]
    by_cases h : fX8_canRelease σ (tn a1) k = 0
    · rw [if_pos h, if_pos h, nI_add, ih, Nat.add_zero, Nat.zero_add]
    · rw [if_neg h, if_neg h, nI_add, ih, Nat.add_assoc]
theorem w67_5 (σ : MT) (i : Nat) (v : Int64) (j : Nat) (x : Int32) (m y : Nat) : ∀ n k a, fX8_weightOf_L5 (mSI (mSL σ 7 i v) 6 j x) m y n k a = fX8_weightOf_L5 σ m y n k a := by
  intro n
  induction n with
  | zero => intro k a; rfl
  | succ n ih => intro k a; exact ih (k + 1) (fX8_weightOf_S5 σ m y k a)
theorem w67 (σ : MT) (i : Nat) (v : Int64) (j : Nat) (x : Int32) (m y : Nat) : fX8_weightOf (mSI (mSL σ 7 i v) 6 j x) m y = fX8_weightOf σ m y := w67_5 σ i v j x m y _ _ _
theorem can_67 (σ : MT) (v : Int64) (m k y : Nat) (h : y ≠ k) : fX8_canRelease (mSI (mSL σ 7 (20 * m + k) v) 6 (20 * m + k) (nI 1)) m y = fX8_canRelease σ m y := by
  unfold fX8_canRelease
  rw [w67]
  show (if nI y < nI (mN σ 34) then nI 0 else if (if (6 : Nat) = 6 ∧ 20 * m + y = 20 * m + k then nI 1 else mI σ 6 (20 * m + y)) = 0 then _ else _) = _
  rw [if_neg (show ¬ ((6 : Nat) = 6 ∧ 20 * m + y = 20 * m + k) from fun z => h (by omega))]
theorem e_can {σ : MT} {τ : CT} (hR : Rel σ τ) (hW : CW τ) {m y : Nat} (hm : m < cN τ 0) (hy : y < 20) : (fX8_canRelease σ m y = nI 0 ∧ (¬ fX7_isShared τ m y = 0 → ¬ cI τ 33 y = 0)) ∨ (fX8_canRelease σ m y = nI 1 ∧ ¬ fX7_isShared τ m y = 0 ∧ cI τ 33 y = 0 ∧ mN σ 34 ≤ y ∧ mI σ 6 (20 * m + y) = 0) := by
  obtain ⟨hN, hB, hM, hP, hS, hE, hO, hC, hZ, hA, hV, hw, hU, hY⟩ := hR
  have w := hW.1
  have hN34 := hN.2.2.2.2.2.2.2.1
  have hwt := e_shared hN hM hS hE hW hm hy
  have hc := (hY y hy).2.2.1
  obtain ⟨-, hf⟩ := (hM m (by omega) y hy).1 hm
  unfold fX8_canRelease fX7_isShared
  rw [hwt]
  by_cases h : mN σ 34 ≤ y
  · rw [if_neg (nI_nlt h (by omega))]
    rcases hf with ⟨f1, f2, f3⟩ | ⟨f1, f2, f3⟩ | ⟨f1, f2, f3, f4⟩
    · rw [if_pos f1, if_pos f2]
      by_cases g : fX7_weightIn τ m y ≤ (0 : Int64)
      · rw [if_pos g]; exact Or.inl ⟨rfl, fun z => absurd n00 z⟩
      · rw [if_neg g]; exact Or.inr ⟨rfl, n10, hc.mpr h, h, f1⟩
    · rw [if_neg (by rw [f1]; decide), if_neg (by rw [f2]; decide)]; exact Or.inl ⟨rfl, fun z => absurd n00 z⟩
    · omega
  · rw [if_pos (nI_lt (by omega) (by omega))]; exact Or.inl ⟨rfl, fun _ z => h (hc.mp z)⟩
theorem r_rel {σ : MT} {τ : CT} (hR : Rel σ τ) (hW : CW τ) {m y : Nat} (hm : m < cN τ 0) (hy : y < 20) (x : Int32) : Rel (mSI (mSL σ 7 (20 * m + y) ((fX8_dueOf σ m y) + (((fX8_base σ m y) * x.toInt64) / (100 : Int64)))) 6 (20 * m + y) (nI 1)) (fX7_releaseFrom τ m y x) := by
  have hdue := e_due hR hW hm hy
  obtain ⟨hN, hB, hM, hP, hS, hE, hO, hC, hZ, hA, hV, hw, hU, hY⟩ := hR
  have w := hW.1
  have hbase : fX8_base σ m y = fX7_advanceOf τ m y := by
    unfold fX8_base fX7_advanceOf
    rw [e_shared hN hM hS hE hW hm hy, (hY y hy).1]
  unfold fX7_releaseFrom
  rw [hdue, hbase]
  have hM1 : ∀ v : Int64, RelM (mSI (mSL σ 7 (20 * m + y) v) 6 (20 * m + y) (nI 1)) (cSM (cSD τ m y v) 1 m y (nI 1)) := by
    intro v m2 hm2 y2 hy2
    obtain ⟨k1, k2⟩ := hM m2 hm2 y2 hy2
    refine ⟨fun h9 => ?_, fun h9 => ?_⟩
    · obtain ⟨s1, s2⟩ := k1 h9
      refine ⟨s1, ?_⟩
      show ((if (6 : Nat) = 6 ∧ 20 * m2 + y2 = 20 * m + y then nI 1 else mI σ 6 (20 * m2 + y2)) = 0 ∧ (if (1 : Nat) = 1 ∧ m2 = m ∧ y2 = y then nI 1 else cM τ 1 m2 y2) = 0 ∧ (if m2 = m ∧ y2 = y then v else cD τ m2 y2) = 0) ∨ ((if (6 : Nat) = 6 ∧ 20 * m2 + y2 = 20 * m + y then nI 1 else mI σ 6 (20 * m2 + y2)) = 1 ∧ (if (1 : Nat) = 1 ∧ m2 = m ∧ y2 = y then nI 1 else cM τ 1 m2 y2) = 1 ∧ (if m2 = m ∧ y2 = y then v else cD τ m2 y2) = (if (7 : Nat) = 7 ∧ 20 * m2 + y2 = 20 * m + y then v else mL σ 7 (20 * m2 + y2))) ∨ ((if (6 : Nat) = 6 ∧ 20 * m2 + y2 = 20 * m + y then nI 1 else mI σ 6 (20 * m2 + y2)) = 2 ∧ (if (1 : Nat) = 1 ∧ m2 = m ∧ y2 = y then nI 1 else cM τ 1 m2 y2) = 0 ∧ (if m2 = m ∧ y2 = y then v else cD τ m2 y2) = (if (7 : Nat) = 7 ∧ 20 * m2 + y2 = 20 * m + y then v else mL σ 7 (20 * m2 + y2)) ∧ y2 < mN σ 34)
      by_cases h : m2 = m ∧ y2 = y
      · obtain ⟨rfl, rfl⟩ := h
        rw [if_pos ⟨rfl, rfl⟩, if_pos ⟨rfl, rfl, rfl⟩, if_pos ⟨rfl, rfl⟩, if_pos ⟨rfl, rfl⟩]
        exact Or.inr (Or.inl ⟨rfl, rfl, rfl⟩)
      · have h8 : ¬ 20 * m2 + y2 = 20 * m + y := fun z => h (by omega)
        rw [if_neg (fun z => h8 z.2), if_neg (fun z => h z.2), if_neg h, if_neg (fun z => h8 z.2)]
        exact s2
    · have h7 : cN τ 0 ≤ m2 := h9
      obtain ⟨s1, s2⟩ := k2 h7
      exact ⟨s1, (if_neg (fun z => by omega)).trans s2⟩
  exact ⟨hN, hB, hM1 _, hP, hS, hE, hO, hC, hZ, hA, hV, hw, hU, hY⟩
theorem rel_loop {σ : MT} {τ : CT} (th a1 a2 w : Int32) {m : Nat} (hm : m < cN τ 0) (ht : tn a1 = m) : ∀ n k a σ1 τ1, k + n = 20 → Rel σ1 τ1 → CW τ1 → cN τ1 0 = cN τ 0 → (∀ y, k ≤ y → y < 20 → fX8_canRelease σ1 m y = fX8_canRelease σ m y) → ∃ σ2 τ2, Rel σ2 τ2 ∧ fX8_release_L152 σ th a1 a2 w n k σ1 = (w, σ2, nI 0) ∧ fX7_release_L39 τ a1 a2 m n k (nI a) τ1 = (if nI (a + cRel σ m n k) = 0 then .inl ISE else .inr (nI (a + cRel σ m n k), τ2)) := by
  intro n
  induction n with
  | zero => intro k a σ1 τ1 _ hR _ _ _; exact ⟨σ1, τ1, hR, rfl, rfl⟩
  | succ n ih =>
    intro k a σ1 τ1 hk hR hW h0 hcan
    rw [rel152_s, rel39_s, ht]
    have hm1 : m < cN τ1 0 := by omega
    have hk20 : k < 20 := by omega
    rw [cRel_s, ← hcan k (Nat.le_refl _) hk20]
    rcases e_can hR hW hm1 hk20 with ⟨g1, g2⟩ | ⟨g1, g2, g3, g4, g5⟩
    · rw [g1, if_pos n00, if_pos n00, Nat.zero_add]
      by_cases h : fX7_isShared τ1 m k = 0
      · rw [if_pos h, if_pos h]; exact ih _ _ _ _ (by omega) hR hW h0 (fun y h1 h2 => hcan y (by omega) h2)
      · rw [if_neg h, if_neg h, if_neg (g2 h), if_neg (g2 h)]; exact ih _ _ _ _ (by omega) hR hW h0 (fun y h1 h2 => hcan y (by omega) h2)
    · rw [g1, if_neg n10, if_neg n10, if_neg g2, if_neg g2, if_pos g3, if_pos g3]
      have ea : nI a + 1 = nI (a + 1) := nI_add a 1
      rw [ea, show a + (1 + cRel σ m n (k + 1)) = a + 1 + cRel σ m n (k + 1) by omega]
      refine ih _ _ _ _ (by omega) (r_rel hR hW hm1 hk20 _) ?_ h0 (fun y h1 h2 => ?_)
      · exact (hW.sD m k _).sM1 m k (Or.inr rfl)
      · rw [can_67 _ _ _ _ _ (by omega)]; exact hcan y (by omega) h2
theorem q_release {σ : MT} {τ : CT} (hR : Rel σ τ) (hW : CW τ) (th : Int32) (a1 a2 : Int32) : xEq (wIs (fX7_release τ a1 a2)) ["java/lang/IndexOutOfBoundsException", "java/lang/IllegalArgumentException", "java/lang/IllegalStateException"] τ (some (fX8_release σ th a1 a2).1.toInt64) (fX8_release σ th a1 a2).2.1 (fX8_release σ th a1 a2).2.2 := by
  have w := hW.1
  obtain ⟨hN, hB, hM, hP, hS, hE, hO, hC, hZ, hA, hV, hw, hU, hY⟩ := id hR
  have hN34 := hN.2.2.2.2.2.2.2.1
  unfold fX7_release fX8_release
  rcases p_member hR.1 hW a1 with ⟨m1a, m1b⟩ | ⟨q1, h1, e1, t1, m1a, m1b⟩
  · rw [rel_no σ th a1 a2 m1a]
    simp only [m1b, xb_l]; exact xEq.thr hR rfl (Or.inl ⟨rfl, rfl⟩)
  rw [rel_ent hR hW th a1 a2 h1 t1 m1a]
  rw [rel_cnt σ th a1 a2 _ m1a]
  rw [t1, Nat.zero_add]
  unfold fX8_release_B107
  simp only [m1a, m1b, if_neg n10, xb_r]
  rcases p_in (x := a2) (a := 0) (b := 200) (by first | decide | omega) (by first | decide | omega) with ⟨m2a, m2b⟩ | ⟨q2, g2, h2, e2, m2a, m2b⟩
  · simp only [m2a, m2b, if_pos n00, ite_self, xb_l]; exact xEq.thr hR rfl (Or.inr (Or.inl ⟨rfl, rfl⟩))
  have t2 : tn a2 = q2 := by rw [e2]; exact tn_nI (by omega)
  simp only [m2a, m2b, if_neg n10, xb_r, t2]
  rcases hse_01 τ q1 (cN τ 1) 0 with hs | hs
  · have hs2 : fX7_hasShipEntered τ q1 = nI 0 := hs
    rw [hs2]
    simp only [if_pos n00]
    obtain ⟨σ2, τ2, r1, r2, r3⟩ := rel_loop (σ := σ) (τ := τ) th a1 a2 (nI (cRel σ q1 20 0)) h1 t1 20 0 0 σ τ (by omega) hR hW rfl (fun _ _ _ => rfl)
    rw [Nat.zero_add] at r3
    rw [r3, r2]
    by_cases hz : nI (cRel σ q1 20 0) = 0
    · simp only [if_pos hz]; exact xEq.thr hR rfl (Or.inr (Or.inr ⟨rfl, rfl⟩))
    · simp only [if_neg hz]
      exact xEq.ret rfl rfl r1
  · have hs2 : fX7_hasShipEntered τ q1 = nI 1 := hs
    rw [hs2]
    simp only [if_neg n10]; exact xEq.thr hR rfl (Or.inr (Or.inr ⟨rfl, rfl⟩))
