def mS0 : MT := (fun k j => if k = 3 then xfil (nI 100) (fun _ => 0) 240 j else if k = 15 then xfil (-1) (fun _ => 0) 80 j else if k = 17 then xfil (-1) (fun _ => 0) 20 j else 0, fun _ _ => 0, fun _ _ => 0)
def arS (B a8 a16 a24 a33 a42 a50 a58 a66 a74 a82 a90 a98 a106 a114 a122 a130 a138 a146 a154 a162 a170 a178 a186 a194 a202 a210 a218 a227 : Nat) (k : Nat) : Nat := match k with
  | 3 => a8
  | 4 => a16
  | 5 => a24
  | 6 => a33
  | 7 => a42
  | 9 => a50
  | 10 => a58
  | 12 => a66
  | 13 => a74
  | 14 => a82
  | 15 => a90
  | 16 => a98
  | 17 => a106
  | 18 => a114
  | 19 => a122
  | 21 => a130
  | 22 => a138
  | 23 => a146
  | 24 => a154
  | 25 => a162
  | 26 => a170
  | 27 => a178
  | 28 => a186
  | 29 => a194
  | 31 => a202
  | 32 => a210
  | 33 => a218
  | 36 => a227
  | k => B + k
def isA8 (k : Nat) : Bool := k == 3 || k == 4 || k == 5 || k == 6 || k == 7 || k == 9 || k == 10 || k == 12 || k == 13 || k == 14 || k == 15 || k == 16 || k == 17 || k == 18 || k == 19 || k == 21 || k == 22 || k == 23 || k == 24 || k == 25 || k == 26 || k == 27 || k == 28 || k == 29 || k == 31 || k == 32 || k == 33 || k == 36
def pos8 (k : Nat) : Nat := match k with
  | 3 => 27
  | 4 => 26
  | 5 => 25
  | 6 => 24
  | 7 => 23
  | 9 => 22
  | 10 => 21
  | 12 => 20
  | 13 => 19
  | 14 => 18
  | 15 => 17
  | 16 => 16
  | 17 => 15
  | 18 => 14
  | 19 => 13
  | 21 => 12
  | 22 => 11
  | 23 => 10
  | 24 => 9
  | 25 => 8
  | 26 => 7
  | 27 => 6
  | 28 => 5
  | 29 => 4
  | 31 => 3
  | 32 => 2
  | 33 => 1
  | 36 => 0
  | _ => 0
set_option maxHeartbeats 4000000 in
set_option maxRecDepth 100000 in
theorem xRM0 {E : Nat → ClassId} {h0 h : XW} {B q a8 a16 a24 a33 a42 a50 a58 a66 a74 a82 a90 a98 a106 a114 a122 a130 a138 a146 a154 a162 a170 a178 a186 a194 a202 a210 a218 a227 : Nat} (hN : xNs ((a227, .inl (E 2, 1440, .inl (fun _ => 0))) :: (a218, .inl (E 0, 20, .inl (fun _ => 0))) :: (a210, .inl (E 0, 20, .inl (fun _ => 0))) :: (a202, .inl (E 0, 60, .inl (fun _ => 0))) :: (a194, .inl (E 0, 60, .inl (fun _ => 0))) :: (a186, .inl (E 2, 60, .inl (fun _ => 0))) :: (a178, .inl (E 2, 60, .inl (fun _ => 0))) :: (a170, .inl (E 2, 60, .inl (fun _ => 0))) :: (a162, .inl (E 0, 60, .inl (fun _ => 0))) :: (a154, .inl (E 0, 60, .inl (fun _ => 0))) :: (a146, .inl (E 0, 60, .inl (fun _ => 0))) :: (a138, .inl (E 0, 60, .inl (fun _ => 0))) :: (a130, .inl (E 0, 60, .inl (fun _ => 0))) :: (a122, .inl (E 0, 20, .inl (fun _ => 0))) :: (a114, .inl (E 0, 20, .inl (fun _ => 0))) :: (a106, .inl (E 0, 20, .inl (xfil (-1) (fun _ => 0) 20))) :: (a98, .inl (E 0, 80, .inl (fun _ => 0))) :: (a90, .inl (E 0, 80, .inl (xfil (-1) (fun _ => 0) 80))) :: (a82, .inl (E 0, 60, .inl (fun _ => 0))) :: (a74, .inl (E 0, 60, .inl (fun _ => 0))) :: (a66, .inl (E 0, 60, .inl (fun _ => 0))) :: (a58, .inl (E 0, 24, .inl (fun _ => 0))) :: (a50, .inl (E 0, 24, .inl (fun _ => 0))) :: (a42, .inl (E 1, 240, .inr (.inl (fun _ => 0)))) :: (a33, .inl (E 0, 240, .inl (fun _ => 0))) :: (a24, .inl (E 0, 12, .inl (fun _ => 0))) :: (a16, .inl (E 1, 12, .inr (.inl (fun _ => 0)))) :: (a8, .inl (E 0, 240, .inl (xfil (nI 100) (fun _ => 0) 240))) :: (q, .inr (8, [.int 0, .int 0, .int 0, .ref a8, .ref a16, .ref a24, .ref a33, .ref a42, .int 0, .ref a50, .ref a58, .int 0, .ref a66, .ref a74, .ref a82, .ref a90, .ref a98, .ref a106, .ref a114, .ref a122, .int 0, .ref a130, .ref a138, .ref a146, .ref a154, .ref a162, .ref a170, .ref a178, .ref a186, .ref a194, .int 0, .ref a202, .ref a210, .ref a218, .int 0, .long 0, .ref a227])) :: []) h0 h) (hB : ∀ b e, h b = some e → b < B) : RM E mS0 0 q (arS B a8 a16 a24 a33 a42 a50 a58 a66 a74 a82 a90 a98 a106 a114 a122 a130 a138 a146 a154 a162 a170 a178 a186 a194 a202 a210 a218 a227) h ∧ (∀ k, k < 37 → isA8 k = true → h0 ((arS B a8 a16 a24 a33 a42 a50 a58 a66 a74 a82 a90 a98 a106 a114 a122 a130 a138 a146 a154 a162 a170 a178 a186 a194 a202 a210 a218 a227) k) = none) ∧ (∀ k, k < 37 → isA8 k = false → B ≤ (arS B a8 a16 a24 a33 a42 a50 a58 a66 a74 a82 a90 a98 a106 a114 a122 a130 a138 a146 a154 a162 a170 a178 a186 a194 a202 a210 a218 a227) k) ∧ ∀ k, k < 37 → isA8 k = true → h ((arS B a8 a16 a24 a33 a42 a50 a58 a66 a74 a82 a90 a98 a106 a114 a122 a130 a138 a146 a154 a162 a170 a178 a186 a194 a202 a210 a218 a227) k) ≠ none := by
  have A : ∀ k, k < 37 → (isA8 k = true ∧ ∃ e, ((a227, .inl (E 2, 1440, .inl (fun _ => 0))) :: (a218, .inl (E 0, 20, .inl (fun _ => 0))) :: (a210, .inl (E 0, 20, .inl (fun _ => 0))) :: (a202, .inl (E 0, 60, .inl (fun _ => 0))) :: (a194, .inl (E 0, 60, .inl (fun _ => 0))) :: (a186, .inl (E 2, 60, .inl (fun _ => 0))) :: (a178, .inl (E 2, 60, .inl (fun _ => 0))) :: (a170, .inl (E 2, 60, .inl (fun _ => 0))) :: (a162, .inl (E 0, 60, .inl (fun _ => 0))) :: (a154, .inl (E 0, 60, .inl (fun _ => 0))) :: (a146, .inl (E 0, 60, .inl (fun _ => 0))) :: (a138, .inl (E 0, 60, .inl (fun _ => 0))) :: (a130, .inl (E 0, 60, .inl (fun _ => 0))) :: (a122, .inl (E 0, 20, .inl (fun _ => 0))) :: (a114, .inl (E 0, 20, .inl (fun _ => 0))) :: (a106, .inl (E 0, 20, .inl (xfil (-1) (fun _ => 0) 20))) :: (a98, .inl (E 0, 80, .inl (fun _ => 0))) :: (a90, .inl (E 0, 80, .inl (xfil (-1) (fun _ => 0) 80))) :: (a82, .inl (E 0, 60, .inl (fun _ => 0))) :: (a74, .inl (E 0, 60, .inl (fun _ => 0))) :: (a66, .inl (E 0, 60, .inl (fun _ => 0))) :: (a58, .inl (E 0, 24, .inl (fun _ => 0))) :: (a50, .inl (E 0, 24, .inl (fun _ => 0))) :: (a42, .inl (E 1, 240, .inr (.inl (fun _ => 0)))) :: (a33, .inl (E 0, 240, .inl (fun _ => 0))) :: (a24, .inl (E 0, 12, .inl (fun _ => 0))) :: (a16, .inl (E 1, 12, .inr (.inl (fun _ => 0)))) :: (a8, .inl (E 0, 240, .inl (xfil (nI 100) (fun _ => 0) 240))) :: (q, .inr (8, [.int 0, .int 0, .int 0, .ref a8, .ref a16, .ref a24, .ref a33, .ref a42, .int 0, .ref a50, .ref a58, .int 0, .ref a66, .ref a74, .ref a82, .ref a90, .ref a98, .ref a106, .ref a114, .ref a122, .int 0, .ref a130, .ref a138, .ref a146, .ref a154, .ref a162, .ref a170, .ref a178, .ref a186, .ref a194, .int 0, .ref a202, .ref a210, .ref a218, .int 0, .long 0, .ref a227])) :: [] : List (Nat × va_E))[pos8 k]? = some ((arS B a8 a16 a24 a33 a42 a50 a58 a66 a74 a82 a90 a98 a106 a114 a122 a130 a138 a146 a154 a162 a170 a178 a186 a194 a202 a210 a218 a227) k, e)) ∨ (isA8 k = false ∧ (arS B a8 a16 a24 a33 a42 a50 a58 a66 a74 a82 a90 a98 a106 a114 a122 a130 a138 a146 a154 a162 a170 a178 a186 a194 a202 a210 a218 a227) k = B + k) := by
    intro k hk
    match k, hk with
    | 0, _ => exact Or.inr ⟨rfl, rfl⟩
    | 1, _ => exact Or.inr ⟨rfl, rfl⟩
    | 2, _ => exact Or.inr ⟨rfl, rfl⟩
    | 3, _ => exact Or.inl ⟨rfl, _, rfl⟩
    | 4, _ => exact Or.inl ⟨rfl, _, rfl⟩
    | 5, _ => exact Or.inl ⟨rfl, _, rfl⟩
    | 6, _ => exact Or.inl ⟨rfl, _, rfl⟩
    | 7, _ => exact Or.inl ⟨rfl, _, rfl⟩
    | 8, _ => exact Or.inr ⟨rfl, rfl⟩
    | 9, _ => exact Or.inl ⟨rfl, _, rfl⟩
    | 10, _ => exact Or.inl ⟨rfl, _, rfl⟩
    | 11, _ => exact Or.inr ⟨rfl, rfl⟩
    | 12, _ => exact Or.inl ⟨rfl, _, rfl⟩
    | 13, _ => exact Or.inl ⟨rfl, _, rfl⟩
    | 14, _ => exact Or.inl ⟨rfl, _, rfl⟩
    | 15, _ => exact Or.inl ⟨rfl, _, rfl⟩
    | 16, _ => exact Or.inl ⟨rfl, _, rfl⟩
    | 17, _ => exact Or.inl ⟨rfl, _, rfl⟩
    | 18, _ => exact Or.inl ⟨rfl, _, rfl⟩
    | 19, _ => exact Or.inl ⟨rfl, _, rfl⟩
    | 20, _ => exact Or.inr ⟨rfl, rfl⟩
    | 21, _ => exact Or.inl ⟨rfl, _, rfl⟩
    | 22, _ => exact Or.inl ⟨rfl, _, rfl⟩
    | 23, _ => exact Or.inl ⟨rfl, _, rfl⟩
    | 24, _ => exact Or.inl ⟨rfl, _, rfl⟩
    | 25, _ => exact Or.inl ⟨rfl, _, rfl⟩
    | 26, _ => exact Or.inl ⟨rfl, _, rfl⟩
    | 27, _ => exact Or.inl ⟨rfl, _, rfl⟩
    | 28, _ => exact Or.inl ⟨rfl, _, rfl⟩
    | 29, _ => exact Or.inl ⟨rfl, _, rfl⟩
    | 30, _ => exact Or.inr ⟨rfl, rfl⟩
    | 31, _ => exact Or.inl ⟨rfl, _, rfl⟩
    | 32, _ => exact Or.inl ⟨rfl, _, rfl⟩
    | 33, _ => exact Or.inl ⟨rfl, _, rfl⟩
    | 34, _ => exact Or.inr ⟨rfl, rfl⟩
    | 35, _ => exact Or.inr ⟨rfl, rfl⟩
    | 36, _ => exact Or.inl ⟨rfl, _, rfl⟩
    | n + 37, h9 => exact absurd h9 (by omega)
  refine ⟨⟨hN.get (k := 28) rfl, ?_, ?_, ?_, ?_, ?_⟩, fun k hk ha => ?_, fun k hk ha => ?_, fun k hk ha => ?_⟩
  · intro k n hk
    simp only [mIs, List.mem_cons, Prod.mk.injEq, List.not_mem_nil, or_false] at hk
    rcases hk with ⟨rfl, rfl⟩ | ⟨rfl, rfl⟩ | ⟨rfl, rfl⟩ | ⟨rfl, rfl⟩ | ⟨rfl, rfl⟩ | ⟨rfl, rfl⟩ | ⟨rfl, rfl⟩ | ⟨rfl, rfl⟩ | ⟨rfl, rfl⟩ | ⟨rfl, rfl⟩ | ⟨rfl, rfl⟩ | ⟨rfl, rfl⟩ | ⟨rfl, rfl⟩ | ⟨rfl, rfl⟩ | ⟨rfl, rfl⟩
    · exact hN.get (k := 27) rfl
    · exact hN.get (k := 25) rfl
    · exact hN.get (k := 24) rfl
    · exact hN.get (k := 21) rfl
    · exact hN.get (k := 19) rfl
    · exact hN.get (k := 18) rfl
    · exact hN.get (k := 17) rfl
    · exact hN.get (k := 16) rfl
    · exact hN.get (k := 15) rfl
    · exact hN.get (k := 14) rfl
    · exact hN.get (k := 13) rfl
    · exact hN.get (k := 9) rfl
    · exact hN.get (k := 4) rfl
    · exact hN.get (k := 2) rfl
    · exact hN.get (k := 1) rfl
  · intro k n hk
    simp only [mKs, List.mem_cons, Prod.mk.injEq, List.not_mem_nil, or_false] at hk
    rcases hk with ⟨rfl, rfl⟩ | ⟨rfl, rfl⟩ | ⟨rfl, rfl⟩ | ⟨rfl, rfl⟩ | ⟨rfl, rfl⟩ | ⟨rfl, rfl⟩ | ⟨rfl, rfl⟩
    · exact hN.get (k := 22) rfl
    · exact hN.get (k := 20) rfl
    · exact hN.get (k := 12) rfl
    · exact hN.get (k := 11) rfl
    · exact hN.get (k := 10) rfl
    · exact hN.get (k := 8) rfl
    · exact hN.get (k := 3) rfl
  · intro k n hk
    simp only [mLs, List.mem_cons, Prod.mk.injEq, List.not_mem_nil, or_false] at hk
    rcases hk with ⟨rfl, rfl⟩ | ⟨rfl, rfl⟩
    · exact hN.get (k := 26) rfl
    · exact hN.get (k := 23) rfl
  · intro k n hk
    simp only [mZs, List.mem_cons, Prod.mk.injEq, List.not_mem_nil, or_false] at hk
    rcases hk with ⟨rfl, rfl⟩ | ⟨rfl, rfl⟩ | ⟨rfl, rfl⟩ | ⟨rfl, rfl⟩
    · exact hN.get (k := 7) rfl
    · exact hN.get (k := 6) rfl
    · exact hN.get (k := 5) rfl
    · exact hN.get (k := 0) rfl
  · intro k k' hk hk' hz
    rcases A k hk with ⟨h1, e1, h2⟩ | ⟨h1, h2⟩ <;> rcases A k' hk' with ⟨g1, f1, g2⟩ | ⟨g1, g2⟩
    · have hp : pos8 k = pos8 k' := hN.2.2.1 _ _ _ _ h2 g2 hz
      have key : ∀ k : Fin 37, ∀ k' : Fin 37, isA8 k.val = true → isA8 k'.val = true → pos8 k.val = pos8 k'.val → k.val = k'.val := by decide +kernel
      exact key ⟨k, hk⟩ ⟨k', hk'⟩ h1 g1 hp
    · have := hB _ _ (hN.1 _ _ h2); have h3 : ((arS B a8 a16 a24 a33 a42 a50 a58 a66 a74 a82 a90 a98 a106 a114 a122 a130 a138 a146 a154 a162 a170 a178 a186 a194 a202 a210 a218 a227) k, e1).1 = (arS B a8 a16 a24 a33 a42 a50 a58 a66 a74 a82 a90 a98 a106 a114 a122 a130 a138 a146 a154 a162 a170 a178 a186 a194 a202 a210 a218 a227) k := rfl; rw [h3, hz, g2] at this; omega
    · have := hB _ _ (hN.1 _ _ g2); have h3 : ((arS B a8 a16 a24 a33 a42 a50 a58 a66 a74 a82 a90 a98 a106 a114 a122 a130 a138 a146 a154 a162 a170 a178 a186 a194 a202 a210 a218 a227) k', f1).1 = (arS B a8 a16 a24 a33 a42 a50 a58 a66 a74 a82 a90 a98 a106 a114 a122 a130 a138 a146 a154 a162 a170 a178 a186 a194 a202 a210 a218 a227) k' := rfl; rw [h3, ← hz, h2] at this; omega
    · rw [h2, g2] at hz; omega
  · rcases A k hk with ⟨h1, e1, h2⟩ | ⟨h1, h2⟩
    · exact hN.2.1 _ _ h2
    · rw [h1] at ha; cases ha
  · rcases A k hk with ⟨h1, e1, h2⟩ | ⟨h1, h2⟩
    · rw [h1] at ha; cases ha
    · rw [h2]; omega
  · rcases A k hk with ⟨h1, e1, h2⟩ | ⟨h1, h2⟩
    · intro z; have h3 := hN.1 _ _ h2; rw [z] at h3; cases h3
    · rw [h1] at ha; cases ha
theorem MW0 : MW mS0 := by
  refine ⟨by decide, ?_, ?_, ?_, ?_, ?_, ?_, ?_, ?_, ?_, ?_, ?_⟩
  all_goals first | (intro k hk; exact absurd hk (Nat.not_lt_zero k)) | (intro k; exact Or.inl rfl)
/-- the places of no array may be named anew, behind all that lies -/
def arN (ar : Nat → Nat) (B : Nat) (k : Nat) : Nat := if isA8 k = true then ar k else B + k
theorem RM.re {E : Nat → ClassId} {σ : MT} {th : Int32} {r : Nat} {ar : Nat → Nat} {h : XW} (hR : RM E σ th r ar h) {B : Nat} (hB : ∀ b e, h b = some e → b < B) : RM E σ th r (arN ar B) h := by
  obtain ⟨h1, h2, h3, h4, h5, h6⟩ := hR
  have key : ∀ k n, (k, n) ∈ mIs ++ (mKs ++ (mLs ++ mZs)) → isA8 k = true := by
    intro k n hk
    have h9 : ∀ q ∈ mIs ++ (mKs ++ (mLs ++ mZs)), isA8 q.1 = true := by decide +kernel
    exact h9 (k, n) hk
  have keyA : ∀ k : Fin 37, isA8 k.val = true → ∃ n, (k.val, n) ∈ mIs ++ (mKs ++ (mLs ++ mZs)) := by
    have h9 : ∀ k : Fin 37, isA8 k.val = true → (mIs ++ (mKs ++ (mLs ++ mZs))).any (fun q => q.1 == k.val) = true := by decide +kernel
    intro k hk
    obtain ⟨q, hq, hz⟩ := List.any_eq_true.mp (h9 k hk)
    have hz2 : q.1 = k.val := by simpa using hz
    exact ⟨q.2, by rw [← hz2]; exact hq⟩
  have hlive : ∀ k, k < 37 → isA8 k = true → ar k < B := by
    intro k hk ha
    obtain ⟨n, hn⟩ := keyA ⟨k, hk⟩ ha
    rcases List.mem_append.mp hn with g | g
    · exact hB _ _ (h2 k n g)
    · rcases List.mem_append.mp g with g | g
      · exact hB _ _ (h3 k n g)
      · rcases List.mem_append.mp g with g | g
        · exact hB _ _ (h4 k n g)
        · exact hB _ _ (h5 k n g)
  refine ⟨?_, fun k n hk => ?_, fun k n hk => ?_, fun k n hk => ?_, fun k n hk => ?_, fun k k' hk hk' hz => ?_⟩
  · rw [h1]; rfl
  · rw [show arN ar B k = ar k from if_pos (key k n (List.mem_append_left _ hk))]; exact h2 k n hk
  · rw [show arN ar B k = ar k from if_pos (key k n (List.mem_append_right _ (List.mem_append_left _ hk)))]; exact h3 k n hk
  · rw [show arN ar B k = ar k from if_pos (key k n (List.mem_append_right _ (List.mem_append_right _ (List.mem_append_left _ hk))))]; exact h4 k n hk
  · rw [show arN ar B k = ar k from if_pos (key k n (List.mem_append_right _ (List.mem_append_right _ (List.mem_append_right _ hk))))]; exact h5 k n hk
  · unfold arN at hz
    by_cases a : isA8 k = true <;> by_cases b : isA8 k' = true
    · rw [if_pos a, if_pos b] at hz; exact h6 k k' hk hk' hz
    · rw [if_pos a, if_neg b] at hz; have := hlive k hk a; omega
    · rw [if_neg a, if_pos b] at hz; have := hlive k' hk' b; omega
    · rw [if_neg a, if_neg b] at hz; omega
def cS0 : CT := (fun t i => if t = 39 then xfil (-1) (fun _ => 0) 80 i else 0, fun _ _ => 0, fun _ _ => 0, fun _ _ _ => 0, fun _ _ => 0)
def adS (a7 a16 a25 a34 a43 a52 o59 b1 b2 q : Nat) (ys : List Nat) (K i : Nat) : Nat := match K with
  | 0 => q
  | 1 => a7
  | 2 => a16
  | 3 => a25
  | 4 => a34
  | 5 => a43
  | 6 => a52
  | 7 => o59
  | 8 => b1
  | 9 => b2
  | _ => (ys[i]?).getD 0
def faS (ys : List Nat) (k j : Nat) : Option Nat := if k = 6 then ys[j]? else none
def posS (K i : Nat) : Nat := match K with
  | 0 => 9
  | 1 => 8
  | 2 => 7
  | 3 => 6
  | 4 => 5
  | 5 => 4
  | 6 => 3
  | 7 => 2
  | 8 => 1
  | 9 => 0
  | _ => 10 + i
set_option maxHeartbeats 4000000 in
set_option maxRecDepth 100000 in
theorem xRC0 {E : Nat → ClassId} {Pr : Nat → Prop} {h0 h : XW} {a7 a16 a25 a34 a43 a52 o59 b1 b2 q : Nat} {ys : List Nat} (hys : ys.length = 20) (hN : xNs (((b2, .inl (E 0, 80, .inl (xfil (-1) (fun _ => 0) 80))) :: (b1, .inl (E 0, 80, .inl (fun _ => 0))) :: (o59, .inr (4, [.ref b1, .ref b2])) :: (a52, .inl (E 8, 20, .inr (.inr (.inr (.inr (fun j => ys[j]?)))))) :: (a43, .inl (E 7, 60, .inr (.inr (.inr (.inr (fun _ => none)))))) :: (a34, .inl (E 6, 60, .inr (.inr (.inr (.inr (fun _ => none)))))) :: (a25, .inl (E 5, 60, .inr (.inr (.inr (.inr (fun _ => none)))))) :: (a16, .inl (E 4, 24, .inr (.inr (.inr (.inr (fun _ => none)))))) :: (a7, .inl (E 3, 12, .inr (.inr (.inr (.inr (fun _ => none)))))) :: (q, .inr (7, [.ref a7, .ref a16, .ref a25, .ref a34, .ref a43, .ref a52, .ref o59, .int 0, .int 0, .int 0, .int 0, .int 0, .int 0, .long 0])) :: []) ++ ys.map (fun y => (y, .inr (6, [.int 0, .int 0, .int 0, .int 0, .int 0, .int 0, .int 0])))) h0 h) (hP : ∀ b, Pr b → h0 b ≠ none) : RC E Pr cS0 (adS a7 a16 a25 a34 a43 a52 o59 b1 b2 q ys) (faS ys) h := by
  have Y : ∀ i, i < 20 → ((((b2, .inl (E 0, 80, .inl (xfil (-1) (fun _ => 0) 80))) :: (b1, .inl (E 0, 80, .inl (fun _ => 0))) :: (o59, .inr (4, [.ref b1, .ref b2])) :: (a52, .inl (E 8, 20, .inr (.inr (.inr (.inr (fun j => ys[j]?)))))) :: (a43, .inl (E 7, 60, .inr (.inr (.inr (.inr (fun _ => none)))))) :: (a34, .inl (E 6, 60, .inr (.inr (.inr (.inr (fun _ => none)))))) :: (a25, .inl (E 5, 60, .inr (.inr (.inr (.inr (fun _ => none)))))) :: (a16, .inl (E 4, 24, .inr (.inr (.inr (.inr (fun _ => none)))))) :: (a7, .inl (E 3, 12, .inr (.inr (.inr (.inr (fun _ => none)))))) :: (q, .inr (7, [.ref a7, .ref a16, .ref a25, .ref a34, .ref a43, .ref a52, .ref o59, .int 0, .int 0, .int 0, .int 0, .int 0, .int 0, .long 0])) :: []) ++ ys.map (fun y => (y, .inr (6, [.int 0, .int 0, .int 0, .int 0, .int 0, .int 0, .int 0])))) : List (Nat × va_E))[10 + i]? = some ((adS a7 a16 a25 a34 a43 a52 o59 b1 b2 q ys) 18 i, .inr (6, [.int 0, .int 0, .int 0, .int 0, .int 0, .int 0, .int 0])) := by
    intro i hi
    have h1 : i < ys.length := by omega
    rw [List.getElem?_append_right (by show 10 ≤ 10 + i; omega)]
    show (ys.map _)[10 + i - 10]? = _
    rw [show 10 + i - 10 = i by omega, List.getElem?_map, List.getElem?_eq_getElem h1]
    show some (ys[i], _) = some ((ys[i]?).getD 0, _)
    rw [List.getElem?_eq_getElem h1]
    rfl
  have A : ∀ K i, clive cS0 K i → ∃ e, ((((b2, .inl (E 0, 80, .inl (xfil (-1) (fun _ => 0) 80))) :: (b1, .inl (E 0, 80, .inl (fun _ => 0))) :: (o59, .inr (4, [.ref b1, .ref b2])) :: (a52, .inl (E 8, 20, .inr (.inr (.inr (.inr (fun j => ys[j]?)))))) :: (a43, .inl (E 7, 60, .inr (.inr (.inr (.inr (fun _ => none)))))) :: (a34, .inl (E 6, 60, .inr (.inr (.inr (.inr (fun _ => none)))))) :: (a25, .inl (E 5, 60, .inr (.inr (.inr (.inr (fun _ => none)))))) :: (a16, .inl (E 4, 24, .inr (.inr (.inr (.inr (fun _ => none)))))) :: (a7, .inl (E 3, 12, .inr (.inr (.inr (.inr (fun _ => none)))))) :: (q, .inr (7, [.ref a7, .ref a16, .ref a25, .ref a34, .ref a43, .ref a52, .ref o59, .int 0, .int 0, .int 0, .int 0, .int 0, .int 0, .long 0])) :: []) ++ ys.map (fun y => (y, .inr (6, [.int 0, .int 0, .int 0, .int 0, .int 0, .int 0, .int 0])))) : List (Nat × va_E))[posS K i]? = some ((adS a7 a16 a25 a34 a43 a52 o59 b1 b2 q ys) K i, e) := by
    intro K i hl
    match K, hl with
    | 0, _ => exact ⟨_, rfl⟩
    | 1, _ => exact ⟨_, rfl⟩
    | 2, _ => exact ⟨_, rfl⟩
    | 3, _ => exact ⟨_, rfl⟩
    | 4, _ => exact ⟨_, rfl⟩
    | 5, _ => exact ⟨_, rfl⟩
    | 6, _ => exact ⟨_, rfl⟩
    | 7, _ => exact ⟨_, rfl⟩
    | 8, _ => exact ⟨_, rfl⟩
    | 9, _ => exact ⟨_, rfl⟩
    | 10, hl => exact absurd hl (Nat.not_lt_zero i)
    | 11, hl => exact absurd hl (Nat.not_lt_zero i)
    | 12, hl => exact absurd hl (Nat.not_lt_zero i)
    | 13, hl => exact absurd hl (Nat.not_lt_zero i)
    | 14, hl => exact absurd hl (Nat.not_lt_zero i)
    | 15, hl => exact absurd hl (Nat.not_lt_zero i)
    | 16, hl => exact absurd hl (Nat.not_lt_zero i)
    | 17, hl => exact absurd hl (Nat.not_lt_zero i)
    | 18, hl => exact ⟨_, Y i hl⟩
  have Pz : ∀ K i K' i', clive cS0 K i → clive cS0 K' i' → posS K i = posS K' i' → K = K' ∧ i = i' := by
    intro K i K' i' h1 h2 hz
    have key : ∀ K i, clive cS0 K i → (K < 10 ∧ i = 0 ∧ posS K i < 10 ∧ posS K i + K = 9) ∨ (K = 18 ∧ posS K i = 10 + i) := by
      intro K i hl
      match K, hl with
      | 0, hl => exact Or.inl ⟨by decide, hl, by show 9 < 10; decide, rfl⟩
      | 1, hl => exact Or.inl ⟨by decide, hl, by show 8 < 10; decide, rfl⟩
      | 2, hl => exact Or.inl ⟨by decide, hl, by show 7 < 10; decide, rfl⟩
      | 3, hl => exact Or.inl ⟨by decide, hl, by show 6 < 10; decide, rfl⟩
      | 4, hl => exact Or.inl ⟨by decide, hl, by show 5 < 10; decide, rfl⟩
      | 5, hl => exact Or.inl ⟨by decide, hl, by show 4 < 10; decide, rfl⟩
      | 6, hl => exact Or.inl ⟨by decide, hl, by show 3 < 10; decide, rfl⟩
      | 7, hl => exact Or.inl ⟨by decide, hl, by show 2 < 10; decide, rfl⟩
      | 8, hl => exact Or.inl ⟨by decide, hl, by show 1 < 10; decide, rfl⟩
      | 9, hl => exact Or.inl ⟨by decide, hl, by show 0 < 10; decide, rfl⟩
      | 10, hl => exact absurd hl (Nat.not_lt_zero i)
      | 11, hl => exact absurd hl (Nat.not_lt_zero i)
      | 12, hl => exact absurd hl (Nat.not_lt_zero i)
      | 13, hl => exact absurd hl (Nat.not_lt_zero i)
      | 14, hl => exact absurd hl (Nat.not_lt_zero i)
      | 15, hl => exact absurd hl (Nat.not_lt_zero i)
      | 16, hl => exact absurd hl (Nat.not_lt_zero i)
      | 17, hl => exact absurd hl (Nat.not_lt_zero i)
      | 18, hl => exact Or.inr ⟨rfl, rfl⟩
    rcases key K i h1 with ⟨a1, a2, a3, a4⟩ | ⟨a1, a2⟩ <;> rcases key K' i' h2 with ⟨b1, b2, b3, b4⟩ | ⟨b1, b2⟩ <;> omega
  refine ⟨fun K i hl => ?_, fun K i K' i' h1 h2 hz => ?_, fun K i hl hp => ?_, fun b hb => ?_, ?_⟩
  · match K, hl with
    | 0, hl => exact hN.get (k := 9) rfl
    | 1, hl => exact hN.get (k := 8) rfl
    | 2, hl => exact hN.get (k := 7) rfl
    | 3, hl => exact hN.get (k := 6) rfl
    | 4, hl => exact hN.get (k := 5) rfl
    | 5, hl => exact hN.get (k := 4) rfl
    | 6, hl => exact hN.get (k := 3) rfl
    | 7, hl => exact hN.get (k := 2) rfl
    | 8, hl => exact hN.get (k := 1) rfl
    | 9, hl => exact hN.get (k := 0) rfl
    | 10, hl => exact absurd hl (Nat.not_lt_zero i)
    | 11, hl => exact absurd hl (Nat.not_lt_zero i)
    | 12, hl => exact absurd hl (Nat.not_lt_zero i)
    | 13, hl => exact absurd hl (Nat.not_lt_zero i)
    | 14, hl => exact absurd hl (Nat.not_lt_zero i)
    | 15, hl => exact absurd hl (Nat.not_lt_zero i)
    | 16, hl => exact absurd hl (Nat.not_lt_zero i)
    | 17, hl => exact absurd hl (Nat.not_lt_zero i)
    | 18, hl => exact hN.get (k := 10 + i) (Y i hl)
  · obtain ⟨e1, g1⟩ := A K i h1
    obtain ⟨e2, g2⟩ := A K' i' h2
    exact Pz K i K' i' h1 h2 (hN.2.2.1 _ _ _ _ g1 g2 hz)
  · obtain ⟨e1, g1⟩ := A K i hl
    exact hP _ hp (hN.2.1 _ _ g1)
  · rw [hN.old (hP b hb)]; exact hP b hb
  · refine ⟨fun j hj => absurd hj (Nat.not_lt_zero j), fun j hj => absurd hj (Nat.not_lt_zero j), fun j hj => absurd hj (Nat.not_lt_zero j), fun j hj => absurd hj (Nat.not_lt_zero j), fun j hj => absurd hj (Nat.not_lt_zero j), fun j hj => ?_⟩
    show ys[j]? = some ((ys[j]?).getD 0)
    rw [List.getElem?_eq_getElem (show j < ys.length by omega)]
    rfl
theorem CW0 : CW cS0 := by
  refine ⟨by decide, ?_, ?_, ?_, ?_, ?_, ?_, ?_, ?_, ?_, ?_, ?_, ?_, ?_⟩
  all_goals first | (intro k hk; exact absurd hk (Nat.not_lt_zero k)) | (intro k; exact Or.inl rfl) | (intro m y; exact Or.inl rfl)
/-- more is protected -/
theorem RC.more {E : Nat → ClassId} {Pr Pr1 : Nat → Prop} {τ : CT} {ad : Nat → Nat → Nat} {fa : Nat → Nat → Option Nat} {h h1 : XW} (hR : RC E Pr τ ad fa h) (hk : ∀ b, h b ≠ none → h1 b = h b) (hP : ∀ b, Pr1 b → h1 b ≠ none) (hn : ∀ b, Pr1 b → Pr b ∨ h b = none) : RC E Pr1 τ ad fa h1 :=
  ⟨fun K i hl => by rw [hk _ (hR.isS hl)]; exact hR.1 K i hl, hR.2.1, fun K i hl hp => (hn _ hp).elim (hR.2.2.1 K i hl) (hR.isS hl), hP, hR.2.2.2.2⟩
