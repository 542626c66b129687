/-! acts: entering, leaving, days -/
section JA1
variable {t : Nat} {σ : LT} {τ : CT} {q12 : Int64} {n14 n15 n16 n17 : Nat}
/-- an act went well: the law goes on, and what holds between class and law holds -/
def Aok (t : Nat) (r : Option ST) : Prop := ∃ (σ : LT) (τ : CT) (q12 : Int64) (n14 n15 n16 n17 : Nat), r = some (σ, τ, q12, n14, n15, n16, n17) ∧ J t σ τ q12 n14 n15 n16 n17
theorem JB.up (h : JB t σ) : JB (t + 1) σ := ⟨h.1, fun m hm => ⟨(h.2 m hm).1, by have := (h.2 m hm).2; omega⟩⟩
theorem JB.of {σ σ1 : LT} (h : JB t σ) (hF : lF σ1 = lF σ) (h8 : ∀ i, lL σ1 8 i = lL σ 8 i) (h9 : ∀ m, lL σ1 9 m = lL σ 9 m) : JB (t + 1) σ1 := by
  refine ⟨fun i hi => ?_, fun m hm => ?_⟩
  · rw [hF, h8]; exact h.1 i hi
  · rw [h9]; have := h.2 m hm; omega
theorem J.up (hJ : J t σ τ q12 n14 n15 n16 n17) : J (t + 1) σ τ q12 n14 n15 n16 n17 := by
  obtain ⟨a, b, c, d, e, f, g, h, i, j, k, l⟩ := hJ
  exact ⟨a, b, c, d, e, f, g, h, i, j, k, l.up⟩
theorem Aok.same (hJ : J t σ τ q12 n14 n15 n16 n17) {r : Option ST} (h : r = some (σ, τ, q12, n14, n15, n16, n17)) : Aok (t + 1) r := ⟨_, _, _, _, _, _, _, h, hJ.up⟩
theorem tr_ok {α : Type} {τ : CT} {d : α} (x : α × CT) : trG τ d (.inr x) = .inr x := rfl
theorem tr_no {α : Type} {τ : CT} {d : α} : trG τ d (.inl "java/lang/IllegalStateException" : String ⊕ (α × CT)) = .inr (d, τ) :=
  if_pos (c := "java/lang/IllegalStateException" = "java/lang/IllegalStateException") (e := .inl "java/lang/IllegalStateException") rfl
def opV (σ : LT) (s : Nat) : Nat → Int32
  | 0 => -1
  | n + 1 => if lK σ 0 (3 * n) = s then (if lK σ 0 (3 * n + 2) = 9999 then nI n else opV σ s n) else opV σ s n
theorem opV_no {σ : LT} {s : Nat} : ∀ n, (∀ e, e < n → lK σ 0 (3 * e) = s → lK σ 0 (3 * e + 2) ≠ 9999) → opV σ s n = -1
  | 0, _ => rfl
  | n + 1, h => by
    have ih := opV_no n (fun e he => h e (by omega))
    show (if lK σ 0 (3 * n) = s then (if lK σ 0 (3 * n + 2) = 9999 then nI n else opV σ s n) else opV σ s n) = -1
    by_cases h1 : lK σ 0 (3 * n) = s
    · rw [if_pos h1, if_neg (h n (by omega) h1)]; exact ih
    · rw [if_neg h1]; exact ih
theorem opV_yes {σ : LT} {s e0 : Nat} (h0 : lK σ 0 (3 * e0) = s) (h2 : lK σ 0 (3 * e0 + 2) = 9999) : ∀ n, e0 < n → (∀ e, e < n → lK σ 0 (3 * e) = s → lK σ 0 (3 * e + 2) = 9999 → e = e0) → opV σ s n = nI e0
  | 0, h, _ => by omega
  | n + 1, h, hu => by
    show (if lK σ 0 (3 * n) = s then (if lK σ 0 (3 * n + 2) = 9999 then nI n else opV σ s n) else opV σ s n) = nI e0
    by_cases hn : e0 = n
    · subst hn; rw [if_pos h0, if_pos h2]
    · have ih := opV_yes h0 h2 n (by omega) (fun e he => hu e (by omega))
      by_cases h1 : lK σ 0 (3 * n) = s
      · rw [if_pos h1, if_neg (fun z => hn (hu n (by omega) h1 z).symm)]; exact ih
      · rw [if_neg h1]; exact ih
theorem op_eq (hJ : J t σ τ q12 n14 n15 n16 n17) {s : Nat} (hs : s < 5) : (cK τ 14 s = 0 → opV σ s n14 = -1) ∧ (cK τ 14 s ≠ 0 → opV σ s n14 = nI (cK τ 14 s - 1)) := by
  obtain ⟨o1, o2⟩ := hJ.2.2.2.2.2.1 s hs
  refine ⟨fun h => opV_no n14 (o1 h), fun h => ?_⟩
  obtain ⟨p0, p1, p2, p3⟩ := o2 h
  exact opV_yes p1 p2 n14 (by omega) p3
/-- released in a year -/
theorem rel_iff (hJ : J t σ τ q12 n14 n15 n16 n17) {m y : Nat} (hm : m < 3) (hy : y < 3) : (cM τ 1 m y = 0 ↔ ¬ lI σ 7 (3 * m + y) = nI 1) := by
  obtain ⟨-, -, -, hf⟩ := (hJ.2.1 m hm).1 y hy
  rcases hf with ⟨f1, f2, -⟩ | ⟨f1, f2, -⟩ | ⟨f1, f2, -⟩
  · rw [f1, f2]; decide
  · rw [f1, f2]; decide
  · rw [f1, f2]; decide
theorem ent_0 (σ : LT) (n s d e : Nat) : lK (lSK (lSK (lSK σ 0 (3 * n) s) 0 (3 * n + 1) d) 0 (3 * n + 2) 9999) 0 (3 * e) = if e = n then s else lK σ 0 (3 * e) := by
  simp only [lSK_K]
  rw [if_neg (by omega), if_neg (by omega)]
  by_cases h : e = n
  · rw [if_pos ⟨trivial, by omega⟩, if_pos h]
  · rw [if_neg (by omega), if_neg h]
theorem ent_1 (σ : LT) (n s d e : Nat) : lK (lSK (lSK (lSK σ 0 (3 * n) s) 0 (3 * n + 1) d) 0 (3 * n + 2) 9999) 0 (3 * e + 1) = if e = n then d else lK σ 0 (3 * e + 1) := by
  simp only [lSK_K]
  rw [if_neg (by omega)]
  by_cases h : e = n
  · rw [if_pos ⟨trivial, by omega⟩, if_pos h]
  · rw [if_neg (by omega), if_neg (by omega), if_neg h]
theorem ent_2 (σ : LT) (n s d e : Nat) : lK (lSK (lSK (lSK σ 0 (3 * n) s) 0 (3 * n + 1) d) 0 (3 * n + 2) 9999) 0 (3 * e + 2) = if e = n then 9999 else lK σ 0 (3 * e + 2) := by
  simp only [lSK_K]
  by_cases h : e = n
  · rw [if_pos ⟨trivial, by omega⟩, if_pos h]
  · rw [if_neg (by omega), if_neg (by omega), if_neg (by omega), if_neg h]
theorem a_enter (hJ : J t σ τ q12 n14 n15 n16 n17) (hW : LW σ) (hC : CW τ) {s : Nat} (hs : s < 5) (h12 : n14 < 12) : Aok (t + 1) (fS359 σ τ q12 n14 n15 n16 n17 s) := by
  obtain ⟨⟨a0, a1, a2, a3, a4, a5, a6, b1, b2, b3, b4, b5⟩, hM, hP, hS, hE, hO, hJC, hV, hJW, hU, hY, hB⟩ := id hJ
  have L : ∀ n k, k + n = n14 → fS359_L365 σ τ q12 n14 n15 n16 n17 s n k (opV σ s k) = fS359_L365 σ τ q12 n14 n15 n16 n17 s 0 n14 (opV σ s n14) := by
    intro n
    induction n with
    | zero => intro k hk; have hk : k = n14 := by omega
              rw [hk]
    | succ n ih =>
      intro k hk
      have := ih (k + 1) (by omega)
      exact this
  unfold fS359
  rw [show (-1 : Int32) = opV σ s 0 from rfl, L n14 0 (by omega)]
  simp only [fS359_L365]
  unfold fS359_B444 fL_tried2 fL_entered fX7_enter
  obtain ⟨s1, s2, s3⟩ := hS s hs
  have hm := hW.2.1 s (by omega)
  rw [p_ship (by rw [a1]; exact hs) (by rw [a1]; decide), xb_inr, s1, a5, a2]
  obtain ⟨o1, o2⟩ := op_eq hJ hs
  have hri := rel_iff hJ hm (show n17 / 100 < 3 by omega)
  by_cases h14 : cK τ 14 s = 0
  · rw [if_pos h14, o1 h14, if_neg (show ¬ (0 : Int32) ≤ -1 by decide), if_neg (show ¬ 299 < n17 by omega)]
    by_cases hr : lI σ 7 (3 * lK σ 1 s + n17 / 100) = nI 1
    · rw [if_neg (fun z => (hri.mp z) hr), if_pos hr, tr_no, lc_inr]
      unfold fS359_B465
      rw [if_pos n00, if_pos rfl, if_pos n00]
      exact Aok.same hJ rfl
    · rw [if_pos (hri.mpr hr), if_neg hr, if_pos (nI_lt (by omega) (by decide))]
      show Aok (t + 1) (lcall none (trG τ (-9) (.inr (nI 0, _))) _)
      rw [tr_ok, lc_inr]
      unfold fS359_B465
      rw [if_neg n10, if_pos rfl, if_neg n10]
      refine ⟨_, _, _, _, _, _, _, rfl, ⟨a0, a1, ?_, a3, a4, a5, a6, by show n14 + 1 ≤ 12; omega, b2, b3, b4, b5⟩, hM, hP, hS, ?_, ?_, hJC, hV, hJW, hU, hY, hB.up⟩
      · show cN τ 2 + 1 = n14 + 1; rw [a2]
      · intro e he
        have he : e < n14 + 1 := he
        show (if 11 = 2 ∧ e = 0 then cN τ 2 + 1 else if 11 = 11 ∧ e = cN τ 2 then s else cK τ 11 e) = lK (lSK (lSK (lSK σ 0 (3 * n14) s) 0 (3 * n14 + 1) n17) 0 (3 * n14 + 2) 9999) 0 (3 * e) ∧ (if 22 = 22 ∧ e = cN τ 2 then nI n17 else if 22 = 23 ∧ e = cN τ 2 then nI 2000 else cI τ 22 e) = nI (lK (lSK (lSK (lSK σ 0 (3 * n14) s) 0 (3 * n14 + 1) n17) 0 (3 * n14 + 2) 9999) 0 (3 * e + 1)) ∧ lK (lSK (lSK (lSK σ 0 (3 * n14) s) 0 (3 * n14 + 1) n17) 0 (3 * n14 + 2) 9999) 0 (3 * e + 1) ≤ n17 ∧ ((lK (lSK (lSK (lSK σ 0 (3 * n14) s) 0 (3 * n14 + 1) n17) 0 (3 * n14 + 2) 9999) 0 (3 * e + 2) = 9999 ∧ (if 23 = 22 ∧ e = cN τ 2 then nI n17 else if 23 = 23 ∧ e = cN τ 2 then nI 2000 else cI τ 23 e) = nI 2000) ∨ (lK (lSK (lSK (lSK σ 0 (3 * n14) s) 0 (3 * n14 + 1) n17) 0 (3 * n14 + 2) 9999) 0 (3 * e + 2) ≤ n17 ∧ (if 23 = 22 ∧ e = cN τ 2 then nI n17 else if 23 = 23 ∧ e = cN τ 2 then nI 2000 else cI τ 23 e) = nI (lK (lSK (lSK (lSK σ 0 (3 * n14) s) 0 (3 * n14 + 1) n17) 0 (3 * n14 + 2) 9999) 0 (3 * e + 2))))
        rw [ent_0, ent_1, ent_2, a2]
        by_cases h : e = n14
        · simp [h]
        · simp only [h, if_false, and_false]
          exact hE e (by omega)
      · intro z hz
        have hz : z < 5 := hz
        show ((if 14 = 14 ∧ z = s then n14 + 1 else (if 14 = 2 ∧ z = 0 then cN τ 2 + 1 else if 14 = 11 ∧ z = cN τ 2 then s else cK τ 14 z)) = 0 → ∀ e, e < n14 + 1 → lK (lSK (lSK (lSK σ 0 (3 * n14) s) 0 (3 * n14 + 1) n17) 0 (3 * n14 + 2) 9999) 0 (3 * e) = z → lK (lSK (lSK (lSK σ 0 (3 * n14) s) 0 (3 * n14 + 1) n17) 0 (3 * n14 + 2) 9999) 0 (3 * e + 2) ≠ 9999) ∧ ((if 14 = 14 ∧ z = s then n14 + 1 else (if 14 = 2 ∧ z = 0 then cN τ 2 + 1 else if 14 = 11 ∧ z = cN τ 2 then s else cK τ 14 z)) ≠ 0 → (if 14 = 14 ∧ z = s then n14 + 1 else (if 14 = 2 ∧ z = 0 then cN τ 2 + 1 else if 14 = 11 ∧ z = cN τ 2 then s else cK τ 14 z)) ≤ n14 + 1 ∧ lK (lSK (lSK (lSK σ 0 (3 * n14) s) 0 (3 * n14 + 1) n17) 0 (3 * n14 + 2) 9999) 0 (3 * ((if 14 = 14 ∧ z = s then n14 + 1 else (if 14 = 2 ∧ z = 0 then cN τ 2 + 1 else if 14 = 11 ∧ z = cN τ 2 then s else cK τ 14 z)) - 1)) = z ∧ lK (lSK (lSK (lSK σ 0 (3 * n14) s) 0 (3 * n14 + 1) n17) 0 (3 * n14 + 2) 9999) 0 (3 * ((if 14 = 14 ∧ z = s then n14 + 1 else (if 14 = 2 ∧ z = 0 then cN τ 2 + 1 else if 14 = 11 ∧ z = cN τ 2 then s else cK τ 14 z)) - 1) + 2) = 9999 ∧ ∀ e, e < n14 + 1 → lK (lSK (lSK (lSK σ 0 (3 * n14) s) 0 (3 * n14 + 1) n17) 0 (3 * n14 + 2) 9999) 0 (3 * e) = z → lK (lSK (lSK (lSK σ 0 (3 * n14) s) 0 (3 * n14 + 1) n17) 0 (3 * n14 + 2) 9999) 0 (3 * e + 2) = 9999 → e = (if 14 = 14 ∧ z = s then n14 + 1 else (if 14 = 2 ∧ z = 0 then cN τ 2 + 1 else if 14 = 11 ∧ z = cN τ 2 then s else cK τ 14 z)) - 1)
        have e9 : (if 14 = 14 ∧ z = s then n14 + 1 else (if 14 = 2 ∧ z = 0 then cN τ 2 + 1 else if 14 = 11 ∧ z = cN τ 2 then s else cK τ 14 z)) = if z = s then n14 + 1 else cK τ 14 z := by simp
        rw [e9]
        obtain ⟨z1, z2⟩ := hO z hz
        by_cases hzs : z = s
        · rw [if_pos hzs]
          refine ⟨fun q => by omega, fun _ => ⟨Nat.le_refl _, ?_, ?_, fun e he h1 h2 => ?_⟩⟩
          · rw [ent_0, if_pos (by omega)]; exact hzs.symm
          · rw [ent_2, if_pos (by omega)]
          · rw [ent_0] at h1
            rw [ent_2] at h2
            by_cases hen : e = n14
            · omega
            · rw [if_neg hen] at h1 h2
              exact absurd h2 ((hO s hs).1 h14 e (by omega) (by rw [h1]; exact hzs))
        · rw [if_neg hzs]
          refine ⟨fun q e he h1 => ?_, fun q => ?_⟩
          · rw [ent_0] at h1
            rw [ent_2]
            by_cases hen : e = n14
            · rw [if_pos hen] at h1; exact absurd h1.symm hzs
            · rw [if_neg hen] at h1 ⊢; exact z1 q e (by omega) h1
          · obtain ⟨y0, y1, y2, y3⟩ := z2 q
            refine ⟨by omega, ?_, ?_, fun e he h1 h2 => ?_⟩
            · rw [ent_0, if_neg (by omega)]; exact y1
            · rw [ent_2, if_neg (by omega)]; exact y2
            · rw [ent_0] at h1
              rw [ent_2] at h2
              by_cases hen : e = n14
              · rw [if_pos hen] at h1; exact absurd h1.symm hzs
              · rw [if_neg hen] at h1 h2; exact y3 e (by omega) h1 h2
  · have hle := ((hO s hs).2 h14).1
    rw [if_neg h14, o2 h14, if_pos (nI_pos' (by omega)), tr_no, lc_inr]
    unfold fS359_B465
    rw [if_pos n00, if_pos rfl, if_pos n00]
    exact Aok.same hJ rfl
end JA1
