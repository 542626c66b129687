/-! a year is closed: coverage, and the whole of it -/
theorem r_28 {σ : MT} {τ : CT} (hR : Rel σ τ) {k : Nat} (hk : k < cN τ 3) {v : Int32} (hv : v = 0 ∨ v = 1) (ho : mN σ 34 ≤ mK σ 23 k / 100 ∨ v = mI σ 28 k) : Rel (mSI σ 28 k v) τ := by
  obtain ⟨hN, hB, hM, hP, hS, hE, hO, hC, hZ, hA, hV, hw, hU, hY⟩ := hR
  have e : ∀ c, mI (mSI σ 28 k v) 28 c = if c = k then v else mI σ 28 c := by
    intro c
    show (if (28 : Nat) = 28 ∧ c = k then v else mI σ 28 c) = _
    by_cases h : c = k
    · rw [if_pos ⟨rfl, h⟩, if_pos h]
    · rw [if_neg (fun z => h z.2), if_neg h]
  refine ⟨hN, ?_, hM, hP, hS, hE, hO, hC, hZ, hA, hV, ?_, hU, hY⟩
  · obtain ⟨b1, b2, b3, b4⟩ := hB
    refine ⟨b1, b2, fun c => ?_, b4⟩
    rw [e]
    split
    · exact hv
    · exact b3 c
  · intro c hc hcl
    have hcl2 : mK σ 23 c / 100 < mN σ 34 := hcl
    obtain ⟨w1, w2⟩ := hw c hc hcl2
    have same : ∀ c1, c1 < cN τ 3 → mK σ 23 c1 = mK σ 23 c → mI (mSI σ 28 k v) 28 c1 = mI σ 28 c1 := by
      intro c1 _ h23
      rw [e]
      by_cases h : c1 = k
      · rw [if_pos h]
        rcases ho with ho | ho
        · rw [← h, h23] at ho; omega
        · rw [ho, h]
      · rw [if_neg h]
    refine ⟨(same c hc rfl).trans w1, fun c1 hc1 g1 g2 => ?_⟩
    have h23 : mK σ 23 c1 = mK σ 23 c := by
      have g3 : mK σ 25 c1 = mK σ 25 c := g2
      obtain ⟨-, -, p1, p2, -⟩ := hC c1 hc1
      obtain ⟨-, -, p3, p4, -⟩ := hC c hc
      rw [p2, p4, ← p1, ← p3, g3]
    rw [same c1 hc1 h23, same c hc rfl]
    exact w2 c1 hc1 g1 g2
theorem nar01 {v : Int32} (h : v = 0 ∨ v = 1) : vp_nar .boolean v = v := by
  rcases h with h | h <;> rw [h] <;> decide
theorem c77_s (σ : MT) (th a1 : Int32) (n k : Nat) (σ1 : MT) : fX8_close_L77 σ th a1 (n + 1) k σ1 = fX8_close_L77 σ th a1 n (k + 1) (if (nI ((mK σ1 23 k) / 100)) = (nI (tn a1)) then (mSI σ1 28 k (vp_nar .boolean (fX8_isCovered σ1 k))) else (mSI σ1 28 k (vp_nar .boolean (mI σ1 28 k)))) := rfl
theorem e_c77 {τ : CT} (hW : CW τ) (σ : MT) (th a1 : Int32) {y : Nat} (hy : y < 20) (ht : tn a1 = y) : ∀ n k σ1, k + n = cN τ 3 → Rel σ1 τ → mN σ1 34 = y → (∀ c, c < k → cK τ 16 (cK τ 13 c) / 100 = y → mI σ1 28 c = fX7_isCovered τ c) → ∃ A, fX8_close_L77 σ th a1 n k σ1 = fX8_close_L77 σ th a1 0 0 A ∧ Rel A τ ∧ mN A 34 = y ∧ (∀ c, c < cN τ 3 → cK τ 16 (cK τ 13 c) / 100 = y → mI A 28 c = fX7_isCovered τ c) := by
  intro n
  induction n with
  | zero => intro k σ1 hk hR h34 h; exact ⟨σ1, rfl, hR, h34, fun c hc => h c (by omega)⟩
  | succ n ih =>
    intro k σ1 hk hR h34 h
    have hk3 : k < cN τ 3 := by omega
    have h23 : mK σ1 23 k = cK τ 16 (cK τ 13 k) := (hR.2.2.2.2.2.2.2.1 k hk3).2.2.2.1
    have hev := hW.2.2.2.2.1 k hk3
    have hd := hW.2.2.2.2.2.2.2.1 _ hev
    obtain ⟨hcov, hc01⟩ := e_cov hR hW hk3
    have hb := hR.2.1.2.2.1 k
    rw [c77_s, h23, ht]
    by_cases hyr : cK τ 16 (cK τ 13 k) / 100 = y
    · rw [if_pos (congrArg nI hyr), hcov, nar01 hc01]
      refine ih (k + 1) _ (by omega) (r_28 hR hk3 hc01 (Or.inl (by rw [h23, hyr, h34]; exact Nat.le_refl _))) h34 (fun c hc hcy => ?_)
      show (if (28 : Nat) = 28 ∧ c = k then fX7_isCovered τ k else mI σ1 28 c) = fX7_isCovered τ c
      by_cases hck : c = k
      · rw [if_pos ⟨rfl, hck⟩, hck]
      · rw [if_neg (fun z => hck z.2)]; exact h c (by omega) hcy
    · rw [if_neg (by rw [nI_eq (by omega) (by omega)]; exact hyr), nar01 hb]
      refine ih (k + 1) _ (by omega) (r_28 hR hk3 hb (Or.inr rfl)) h34 (fun c hc hcy => ?_)
      show (if (28 : Nat) = 28 ∧ c = k then mI σ1 28 k else mI σ1 28 c) = fX7_isCovered τ c
      by_cases hck : c = k
      · rw [hck] at hcy; exact absurd hcy hyr
      · rw [if_neg (fun z => hck z.2)]; exact h c (by omega) hcy
theorem e_c136 {A : MT} {τ : CT} (hR : Rel A τ) (hW : CW τ) (σ : MT) (th a1 : Int32) {y : Nat} (hy : y < 20) (ht : tn a1 = y) (h34 : mN A 34 = y) (c : Int64) : ∀ n k s, k + n = cN τ 0 → fX8_close_L136 σ th a1 A n k (c - s) = fX8_close_L136 σ th a1 A 0 0 (c - fX7_dueOfReleased_L5 τ y n k s) := by
  intro n
  induction n with
  | zero => intro k s _; rfl
  | succ n ih =>
    intro k s hk
    have hk0 : k < cN τ 0 := by omega
    have e8 : ∀ a, fX8_close_L136 σ th a1 A (n + 1) k a = fX8_close_L136 σ th a1 A n (k + 1) (fX8_close_S136 σ th a1 A k a) := fun _ => rfl
    have e7 : fX7_dueOfReleased_L5 τ y (n + 1) k s = fX7_dueOfReleased_L5 τ y n (k + 1) (fX7_dueOfReleased_S5 τ y k s) := rfl
    rw [e8, e7]
    unfold fX8_close_S136 fX7_dueOfReleased_S5
    rw [ht]
    rcases mI6 hR hy h34 hk0 hW with ⟨q1, q2, q3⟩ | ⟨q1, q2, q3⟩
    · rw [if_neg (by rw [q1]; decide), if_pos q2, Int64.sub_zero]; exact ih _ _ (by omega)
    · rw [if_pos (by rw [q1]; decide), if_neg (by rw [q2]; decide), ← q3]
      rw [show c - s - cD τ k y = c - (s + cD τ k y) by rw [Int64.sub_eq_add_neg, Int64.sub_eq_add_neg, Int64.sub_eq_add_neg, Int64.neg_add, Int64.sub_eq_add_neg, Int64.add_assoc]]
      exact ih _ _ (by omega)
theorem cov_oc (τ : CT) (v : Int64) (p : Nat → Int32) (d : Nat → Nat → Int64) {c : Nat} (h : cI τ 33 (cK τ 16 (cK τ 13 c) / 100) = 0) : fX7_isCovered (oc (cSL τ 0 0 v) p d) c = fX7_isCovered τ c := by
  have L : ∀ s dd n k, fX7_wasEntered_L2 (oc (cSL τ 0 0 v) p d) s dd n k = fX7_wasEntered_L2 τ s dd n k := by
    intro s dd n
    induction n with
    | zero => intro k; rfl
    | succ n ih =>
      intro k
      rw [was_s, was_s, ih]
      rfl
  have e2 : ∀ s dd, fX7_wasEntered (oc (cSL τ 0 0 v) p d) s dd = fX7_wasEntered τ s dd := fun s dd => L s dd _ _
  unfold fX7_isCovered
  rw [e2]
  have h2 : cI (oc (cSL τ 0 0 v) p d) 33 (cK (oc (cSL τ 0 0 v) p d) 16 (cK (oc (cSL τ 0 0 v) p d) 13 c) / 100) = 0 := h
  rw [if_pos h2, if_pos h]
  rfl
theorem c30_s (τ : CT) (a1 : Int32) (n k : Nat) (τ1 : CT) : fX7_close_L30 τ a1 (n + 1) k τ1 = fX7_close_L30 τ a1 n (k + 1) (if (nI ((cK τ1 16 (cK τ1 13 k)) / 100)) = (nI (tn a1)) then (cSI τ1 28 k (fX7_isCovered τ1 k)) else τ1) := rfl
theorem e_c30 {τ : CT} (hW : CW τ) (a1 : Int32) (v : Int64) (d : Nat → Nat → Int64) {y : Nat} (hy : y < 20) (ht : tn a1 = y) (h33 : cI τ 33 y = 0) : ∀ n k p, k + n = cN τ 3 → ∃ p2, fX7_close_L30 τ a1 n k (oc (cSL τ 0 0 v) p d) = fX7_close_L30 τ a1 0 0 (oc (cSL τ 0 0 v) p2 d) ∧ (∀ c, c < k → p2 c = p c) ∧ (∀ c, k ≤ c → c < cN τ 3 → p2 c = if cK τ 16 (cK τ 13 c) / 100 = y then fX7_isCovered τ c else p c) := by
  intro n
  induction n with
  | zero => intro k p hk; exact ⟨p, rfl, fun _ _ => rfl, fun c h1 h2 => absurd h2 (by omega)⟩
  | succ n ih =>
    intro k p hk
    have hk3 : k < cN τ 3 := by omega
    have hev := hW.2.2.2.2.1 k hk3
    have hd := hW.2.2.2.2.2.2.2.1 _ hev
    rw [c30_s, ht]
    have e1 : cK (oc (cSL τ 0 0 v) p d) 16 (cK (oc (cSL τ 0 0 v) p d) 13 k) = cK τ 16 (cK τ 13 k) := rfl
    rw [e1]
    by_cases hyr : cK τ 16 (cK τ 13 k) / 100 = y
    · rw [if_pos (congrArg nI hyr), cov_oc τ v p d (by rw [hyr]; exact h33), oc_28]
      obtain ⟨p2, i1, i2, i3⟩ := ih (k + 1) (fun b => if b = k then fX7_isCovered τ k else p b) (by omega)
      refine ⟨p2, i1, fun c hc => (i2 c (by omega)).trans (if_neg (by omega)), fun c h1 h2 => ?_⟩
      by_cases hck : c = k
      · subst hck; rw [if_pos hyr]; exact (i2 c (by omega)).trans (if_pos rfl)
      · rw [i3 c (by omega) h2]
        show (if _ then fX7_isCovered τ c else (if c = k then fX7_isCovered τ k else p c)) = _
        rw [if_neg hck]
    · rw [if_neg (by rw [nI_eq (by omega) (by omega)]; exact hyr)]
      obtain ⟨p2, i1, i2, i3⟩ := ih (k + 1) p (by omega)
      refine ⟨p2, i1, fun c hc => i2 c (by omega), fun c h1 h2 => ?_⟩
      by_cases hck : c = k
      · subst hck; rw [if_neg hyr]; exact i2 c (by omega)
      · exact i3 c (by omega) h2
theorem cov_ev {σ : MT} {τ : CT} (hR : Rel σ τ) (hW : CW τ) {c1 c : Nat} (h1 : c1 < cN τ 3) (h : c < cN τ 3) (hs : mK σ 21 c1 = mK σ 21 c) (he : mK σ 25 c1 = mK σ 25 c) (ho : mN σ 34 ≤ mK σ 23 c / 100) : fX7_isCovered τ c1 = fX7_isCovered τ c := by
  have w := hW.1
  rw [← (e_cov hR hW h1).1, ← (e_cov hR hW h).1]
  obtain ⟨hN, hB, hM, hP, hS, hE, hO, hC, hZ, hA, hV, hw, hU, hY⟩ := hR
  have h23 : mK σ 23 c1 = mK σ 23 c := by
    obtain ⟨-, -, p1, p2, -⟩ := hC c1 h1
    obtain ⟨-, -, p3, p4, -⟩ := hC c h
    rw [p2, p4, ← p1, ← p3, he]
  have L : ∀ n k a, fX8_isCovered_L27 σ c1 n k a = fX8_isCovered_L27 σ c n k a := by
    intro n
    induction n with
    | zero => intro k a; simp only [fX8_isCovered_L27, hs, h23]
    | succ n ih =>
      intro k a
      have e1 : ∀ c, fX8_isCovered_L27 σ c (n + 1) k a = fX8_isCovered_L27 σ c n (k + 1) (fX8_isCovered_S27 σ c k a) := fun _ => rfl
      rw [e1, e1, ih]
      have e2 : fX8_isCovered_S27 σ c1 k a = fX8_isCovered_S27 σ c k a := by
        unfold fX8_isCovered_S27 fX8_isCovered_B80
        rw [hs, h23]
      rw [e2]
  unfold fX8_isCovered
  have hd : mK σ 23 c < 2000 := by
    obtain ⟨-, -, -, p4, -⟩ := hC c h
    rw [p4]; exact hW.2.2.2.2.2.2.2.1 _ (hW.2.2.2.2.1 c h)
  rw [h23, if_pos (nI_le ho (by omega)), if_pos (nI_le ho (by omega))]
  exact L _ _ _
theorem r_close {A : MT} {τ : CT} (hR : Rel A τ) (hW : CW τ) {y : Nat} (hy : y < 20) (h34 : mN A 34 = y) (hday : (y + 1) * 100 ≤ cN τ 5) {v : Int64} {f : Nat → Int32} {g : Nat → Int64} {d : Nat → Nat → Int64} {p : Nat → Int32} (hP : Pk A τ y (cN τ 0) f g d)
    (hA28 : ∀ c, c < cN τ 3 → cK τ 16 (cK τ 13 c) / 100 = y → mI A 28 c = fX7_isCovered τ c) (hp : ∀ c, c < cN τ 3 → p c = if cK τ 16 (cK τ 13 c) / 100 = y then fX7_isCovered τ c else cI τ 28 c) :
    Rel (mSK (ov (mSL A 35 0 v) f g) 34 0 (y + 1)) (cSI (oc (cSL τ 0 0 v) p d) 33 y (nI 1)) := by
  have hR0 := hR
  have w := hW.1
  obtain ⟨hN, hB, hM, hPp, hS, hE, hO, hC, hZ, hA, hV, hw, hU, hY⟩ := hR
  obtain ⟨n1, n2, n3, n4, n5, n6, n7, n8, n9, n11⟩ := hN
  obtain ⟨P1, P2, P3⟩ := hP
  refine ⟨⟨n1, n2, n3, n4, n5, n6, rfl, ?_, n9, ?_⟩, hB, ?_, hPp, hS, hE, hO, hC, hZ, hA, hV, ?_, hU, ?_⟩
  · show y + 1 ≤ 20; omega
  · show (y + 1) * 100 ≤ cN τ 5; exact hday
  · intro m hm e he
    obtain ⟨k1, k2⟩ := hM m hm e he
    refine ⟨fun h9 => ?_, fun h9 => ?_⟩
    · have h7 : m < cN τ 0 := h9
      obtain ⟨s1, s2⟩ := k1 h7
      refine ⟨s1, ?_⟩
      show (f (20 * m + e) = 0 ∧ cM τ 1 m e = 0 ∧ d m e = 0) ∨ (f (20 * m + e) = 1 ∧ cM τ 1 m e = 1 ∧ d m e = g (20 * m + e)) ∨ (f (20 * m + e) = 2 ∧ cM τ 1 m e = 0 ∧ d m e = g (20 * m + e) ∧ e < y + 1)
      by_cases hey : e = y
      · subst hey
        by_cases hs : sh τ e m
        · obtain ⟨q1, q2⟩ := (P1 m h7).1 h7 hs
          exact Or.inr (Or.inr ⟨q1, hs.1, q2, by omega⟩)
        · obtain ⟨q1, q2, q3⟩ := (P1 m h7).2 (fun z => hs z.2)
          rw [q1, q2, q3]
          rcases mI6 hR0 hy h34 h7 hW with r | r
          · exact Or.inl r
          · exact Or.inr (Or.inl r)
      · obtain ⟨q1, q2⟩ := P2 (20 * m + e) (fun m2 hm2 => by omega)
        rw [q1, q2, P3 m e (Or.inl hey)]
        rcases s2 with r | r | ⟨r1, r2, r3, r4⟩
        · exact Or.inl r
        · exact Or.inr (Or.inl r)
        · exact Or.inr (Or.inr ⟨r1, r2, r3, by omega⟩)
    · have h7 : cN τ 0 ≤ m := h9
      obtain ⟨s1, s2⟩ := k2 h7
      refine ⟨s1, ?_⟩
      show f (20 * m + e) = 0
      rw [(P2 (20 * m + e) (fun m2 hm2 => by omega)).1]; exact s2
  · intro c hc hcl
    have hc3 : c < cN τ 3 := hc
    have hcl2 : mK A 23 c / 100 < y + 1 := hcl
    have h23 : mK A 23 c = cK τ 16 (cK τ 13 c) := (hC c hc3).2.2.2.1
    show mI A 28 c = p c ∧ ∀ c1, c1 < cN τ 3 → mK A 21 c1 = mK A 21 c → mK A 25 c1 = mK A 25 c → mI A 28 c1 = mI A 28 c
    rw [hp c hc3]
    by_cases hyr : cK τ 16 (cK τ 13 c) / 100 = y
    · rw [if_pos hyr]
      refine ⟨hA28 c hc3 hyr, fun c1 hc1 g1 g2 => ?_⟩
      have hyr1 : cK τ 16 (cK τ 13 c1) / 100 = y := by
        rw [← (hC c1 hc1).2.2.1, g2, (hC c hc3).2.2.1]; exact hyr
      rw [hA28 c hc3 hyr, hA28 c1 hc1 hyr1]
      exact cov_ev hR0 hW hc1 hc3 g1 g2 (by rw [h34, h23, hyr]; exact Nat.le_refl _)
    · rw [if_neg hyr]
      exact hw c hc3 (by rw [h34]; rw [h23] at hcl2 ⊢; omega)
  · intro e he
    obtain ⟨y1, y2, y3, y4⟩ := hY e he
    refine ⟨y1, y2, ?_, y4⟩
    show (if (33 : Nat) = 33 ∧ e = y then nI 1 else cI τ 33 e) = 0 ↔ y + 1 ≤ e
    rw [h34] at y3
    by_cases hey : e = y
    · rw [if_pos ⟨rfl, hey⟩]; exact ⟨fun z => absurd z n10, fun z => by omega⟩
    · rw [if_neg (fun z => hey z.2), y3]; omega
theorem cl60_s (τ : CT) (y n k : Nat) : fX7_checkClosable_L60 τ y (n + 1) k = if (nI ((cK τ 16 (cK τ 13 k)) / 100)) = (nI y) then (if (cI τ 26 k) = 0 then .inl ISE else fX7_checkClosable_L60 τ y n (k + 1)) else fX7_checkClosable_L60 τ y n (k + 1) := by
  show lbind (fX7_checkClosable_S60 τ y k) (fun q => fX7_checkClosable_L60 τ y n (k + 1)) = _
  unfold fX7_checkClosable_S60
  repeat' split
  all_goals rfl
theorem as_s (σ : MT) (y : Int32) (n k : Nat) (a : Int32) : fX8_areAllSettled_L4 σ y (n + 1) k a = fX8_areAllSettled_L4 σ y n (k + 1) (fX8_areAllSettled_S4 σ y k a) := rfl
theorem e_settled {σ : MT} {τ : CT} (hR : Rel σ τ) (hW : CW τ) {y : Nat} (hy : y < 20) : (fX8_areAllSettled σ (nI y) = nI 1 ∧ fX7_checkClosable_B58 τ y = .inr ()) ∨ (fX8_areAllSettled σ (nI y) = nI 0 ∧ fX7_checkClosable_B58 τ y = .inl ISE) := by
  obtain ⟨hN, hB, hM, hP, hS, hE, hO, hC, hZ, hA, hV, hw, hU, hY⟩ := hR
  have w := hW.1
  have L0 : ∀ n k, fX8_areAllSettled_L4 σ (nI y) n k (nI 0) = nI 0 := by
    intro n
    induction n with
    | zero => intro k; rfl
    | succ n ih => intro k; rw [as_s]; unfold fX8_areAllSettled_S4; rw [if_pos n00]; exact ih _
  have L : ∀ n k, k + n = cN τ 3 → (fX8_areAllSettled_L4 σ (nI y) n k (nI 1) = nI 1 ∧ fX7_checkClosable_L60 τ y n k = .inr ()) ∨ (fX8_areAllSettled_L4 σ (nI y) n k (nI 1) = nI 0 ∧ fX7_checkClosable_L60 τ y n k = .inl ISE) := by
    intro n
    induction n with
    | zero => intro k _; exact Or.inl ⟨rfl, rfl⟩
    | succ n ih =>
      intro k hk
      have hk3 : k < cN τ 3 := by omega
      obtain ⟨c1, c2, c3, c4, c5, c6, c7, c8, -⟩ := hC k hk3
      rw [as_s, cl60_s]
      unfold fX8_areAllSettled_S4
      rw [if_neg n10, c4, c7]
      by_cases h : nI (cK τ 16 (cK τ 13 k) / 100) = nI y
      · rw [if_pos h, if_pos h]
        by_cases h2 : cI τ 26 k = 0
        · rw [if_pos h2, if_pos h2]; exact Or.inr ⟨L0 _ _, rfl⟩
        · rw [if_neg h2, if_neg h2]; exact ih _ (by omega)
      · rw [if_neg h, if_neg h]; exact ih _ (by omega)
  unfold fX8_areAllSettled fX7_checkClosable_B58
  rw [hN.2.2.2.2.1]
  exact L _ 0 (by omega)
theorem e_closable {σ : MT} {τ : CT} (hR : Rel σ τ) (hW : CW τ) {y : Nat} (hy : y < 20) : (mN σ 34 = y ∧ (y + 1) * 100 ≤ cN τ 5 ∧ fX8_areAllSettled σ (nI y) = nI 1 ∧ fX7_checkClosable τ y = .inr ()) ∨ ((¬ mN σ 34 = y ∨ cN τ 5 < (y + 1) * 100 ∨ fX8_areAllSettled σ (nI y) = nI 0) ∧ fX7_checkClosable τ y = .inl ISE) := by
  have hset := e_settled hR hW hy
  obtain ⟨hN, hB, hM, hP, hS, hE, hO, hC, hZ, hA, hV, hw, hU, hY⟩ := hR
  have w := hW.1
  have hN34 := hN.2.2.2.2.2.2.2.1
  unfold fX7_checkClosable
  rcases p_open hY hN34 hy with ⟨o1, o2, o3, o4⟩ | ⟨o1, o2, o3, o4⟩
  · rw [o4, xb_r]
    by_cases hd : (y + 1) * 100 ≤ cN τ 5
    · rw [if_pos (nI_le hd (by omega))]
      by_cases h0 : y = 0
      · subst h0
        rw [if_pos (show nI 0 ≤ 0 by decide)]
        rcases hset with ⟨g1, g2⟩ | ⟨g1, g2⟩
        · rw [g2]; exact Or.inl ⟨by omega, hd, g1, rfl⟩
        · rw [g2]; exact Or.inr ⟨Or.inr (Or.inr g1), rfl⟩
      · rw [if_neg (show ¬ nI y ≤ 0 by rw [show (0 : Int32) = nI 0 from rfl, nI_leI (by omega) (by omega)]; omega)]
        have hc := (hY (y - 1) (by omega)).2.2.1
        by_cases h1 : cI τ 33 (y - 1) = 0
        · rw [if_pos h1]; have := hc.mp h1; exact Or.inr ⟨Or.inl (by omega), rfl⟩
        · rw [if_neg h1]
          have h2 : ¬ mN σ 34 ≤ y - 1 := fun z => h1 (hc.mpr z)
          rcases hset with ⟨g1, g2⟩ | ⟨g1, g2⟩
          · rw [g2]; exact Or.inl ⟨by omega, hd, g1, rfl⟩
          · rw [g2]; exact Or.inr ⟨Or.inr (Or.inr g1), rfl⟩
    · rw [if_neg (by rw [nI_leI (by omega) (by omega)]; exact hd)]; exact Or.inr ⟨Or.inr (Or.inl (by omega)), rfl⟩
  · rw [o4, xb_l]; exact Or.inr ⟨Or.inl (by omega), rfl⟩
theorem q_close {σ : MT} {τ : CT} (hR : Rel σ τ) (hW : CW τ) (th : Int32) (a1 : Int32) : xEq (wLs (fX7_close τ a1)) ["java/lang/IllegalArgumentException", "java/lang/IllegalStateException"] τ (some (fX8_close σ th a1).1) (fX8_close σ th a1).2.1 (fX8_close σ th a1).2.2 := by
  have w := hW.1
  obtain ⟨hN, hB, hM, hP, hS, hE, hO, hC, hZ, hA, hV, hw, hU, hY⟩ := id hR
  have hN34 := hN.2.2.2.2.2.2.2.1
  unfold fX7_close fX8_close
  rcases p_year a1 with ⟨m1a, m1b⟩ | ⟨q1, h1, e1, t1, m1a, m1b⟩
  · simp only [m1a, m1b, if_pos n00, ite_self, xb_l]; exact xEq.thr hR rfl (Or.inl ⟨rfl, rfl⟩)
  simp only [m1a, m1b, if_neg n10, xb_r, t1]
  have hyr : fX8_isYear (nI q1) = nI 1 := by rw [← e1]; exact m1a
  have hyr0 : ¬ fX8_isYear (nI q1) = 0 := by rw [hyr]; exact n10
  rw [hN.1]
  simp only [if_neg hyr0]
  rcases e_closable hR hW h1 with ⟨g1, g2, g3, g4⟩ | ⟨g1, g4⟩
  · simp only [g4, xb_r]
    rw [g1, g3]
    simp only [if_pos (show nI q1 = nI q1 from rfl), if_neg n10]
    rw [if_neg (show ¬ nI (cN τ 5) < nI (100 * (q1 + 1)) by rw [nI_ltI (by omega) (by omega)]; omega)]
    rw [hN.2.2.2.2.1]
    obtain ⟨A, x1, x2, x3, x4⟩ := e_c77 hW σ th a1 h1 t1 (cN τ 3) 0 σ (by omega) hR g1 (fun c hc => absurd hc (by omega))
    have e77 : fX8_close_L77 σ th a1 0 0 A = fX8_close_L136 σ th a1 A (mN A 2) 0 (fX8_costIn A (nI (tn a1)) - 0) := by rw [Int64.sub_zero]; rfl
    rw [x1, e77, x2.1.2.1, t1, e_costIn x2 hW, e_c136 x2 hW σ th a1 h1 t1 x3 _ (cN τ 0) 0 0 (by omega)]
    have e136 : ∀ a, fX8_close_L136 σ th a1 A 0 0 a = ((fX8_costIn A (nI (tn a1))), (mSK ((fX8_parts A (nI 0) a (tn a1)).1) 34 0 (mN (fX8_parts A (nI 0) a (tn a1)).1 34 + 1)), (fX8_parts A (nI 0) a (tn a1)).2) := fun _ => rfl
    rw [e136, t1, e_costIn x2 hW]
    have edr : fX7_dueOfReleased_L5 τ q1 (cN τ 0) 0 0 = fX7_dueOfReleased τ q1 := rfl
    rw [edr]
    obtain ⟨v, f, g, d, k1, k2, k3⟩ := e_parts x2 hW (nI 0) (fX7_costIn τ (nI q1) - fX7_dueOfReleased τ q1) h1 x3
    rw [k2, k3]
    have h33 : cI τ 33 q1 = 0 := (hY q1 h1).2.2.1.mpr (by omega)
    obtain ⟨p2, u1, u2, u3⟩ := e_c30 hW a1 v d h1 t1 h33 (cN τ 3) 0 (cI τ 28) (by omega)
    have e3 : cN (oc (cSL τ 0 0 v) (cI τ 28) d) 3 = cN τ 3 := rfl
    rw [e3, u1]
    have e30 : fX7_close_L30 τ a1 0 0 (oc (cSL τ 0 0 v) p2 d) = .inr ((fX7_costIn τ (nI (tn a1))), (cSI (oc (cSL τ 0 0 v) p2 d) 33 (tn a1) (nI 1))) := rfl
    rw [e30, t1]
    refine xEq.ret rfl rfl ?_
    have hN34' : mN (ov (mSL A 35 0 v) f g) 34 + 1 = q1 + 1 := by rw [← x3]; rfl
    rw [hN34']
    exact r_close x2 hW h1 x3 g2 k1 x4 (fun c hc => u3 c (Nat.zero_le _) hc)
  · simp only [g4, xb_l]
    by_cases f1 : nI q1 = nI (mN σ 34)
    · have f1' : mN σ 34 = q1 := ((nI_eq (by omega) (by omega)).mp f1).symm
      simp only [if_pos f1]
      by_cases f2 : nI (cN τ 5) < nI (100 * (q1 + 1))
      · simp only [if_pos f2]; exact xEq.thr hR rfl (Or.inr ⟨rfl, rfl⟩)
      · simp only [if_neg f2]
        have f2' : ¬ cN τ 5 < 100 * (q1 + 1) := by rw [nI_ltI (by omega) (by omega)] at f2; exact f2
        have f3 : fX8_areAllSettled σ (nI q1) = nI 0 := by
          rcases g1 with g1 | g1 | g1
          · exact absurd f1' g1
          · omega
          · exact g1
        rw [f3]
        simp only [if_pos n00]; exact xEq.thr hR rfl (Or.inr ⟨rfl, rfl⟩)
    · simp only [if_neg f1]; exact xEq.thr hR rfl (Or.inr ⟨rfl, rfl⟩)
