def cS0 : CT := (fun t i => if t = 39 then xfil (-1) (fun _ => 0) 80 i else 0, fun _ _ => 0, fun _ _ => 0, fun _ _ _ => 0, fun _ _ => 0)
def adS (a7 a16 a25 a34 a43 a52 o59 b1 b2 q : Nat) (ys : List Nat) (K i : Nat) : Nat := match K with
  | 0 => q
  | 1 => a7
  | 2 => a16
  | 3 => a25
  | 4 => a34
  | 5 => a43
  | 6 => a52
  | 7 => o59
  | 8 => b1
  | 9 => b2
  | _ => (ys[i]?).getD 0
def faS (ys : List Nat) (k j : Nat) : Option Nat := if k = 6 then ys[j]? else none
def posS (K i : Nat) : Nat := match K with
  | 0 => 9
  | 1 => 8
  | 2 => 7
  | 3 => 6
  | 4 => 5
  | 5 => 4
  | 6 => 3
  | 7 => 2
  | 8 => 1
  | 9 => 0
  | _ => 10 + i
set_option maxHeartbeats 4000000 in
set_option maxRecDepth 100000 in
theorem xRC0 {E : Nat → ClassId} {Pr : Nat → Prop} {h0 h : XW} {a7 a16 a25 a34 a43 a52 o59 b1 b2 q : Nat} {ys : List Nat} (hys : ys.length = 20) (hN : xNs (((b2, .inl (E 0, 80, .inl (xfil (-1) (fun _ => 0) 80))) :: (b1, .inl (E 0, 80, .inl (fun _ => 0))) :: (o59, .inr (4, [.ref b1, .ref b2])) :: (a52, .inl (E 8, 20, .inr (.inr (.inr (.inr (fun j => ys[j]?)))))) :: (a43, .inl (E 7, 60, .inr (.inr (.inr (.inr (fun _ => none)))))) :: (a34, .inl (E 6, 60, .inr (.inr (.inr (.inr (fun _ => none)))))) :: (a25, .inl (E 5, 60, .inr (.inr (.inr (.inr (fun _ => none)))))) :: (a16, .inl (E 4, 24, .inr (.inr (.inr (.inr (fun _ => none)))))) :: (a7, .inl (E 3, 12, .inr (.inr (.inr (.inr (fun _ => none)))))) :: (q, .inr (7, [.ref a7, .ref a16, .ref a25, .ref a34, .ref a43, .ref a52, .ref o59, .int 0, .int 0, .int 0, .int 0, .int 0, .int 0, .long 0])) :: []) ++ ys.map (fun y => (y, .inr (6, [.int 0, .int 0, .int 0, .int 0, .int 0, .int 0, .int 0])))) h0 h) (hP : ∀ b, Pr b → h0 b ≠ none) : RC E Pr cS0 (adS a7 a16 a25 a34 a43 a52 o59 b1 b2 q ys) (faS ys) h := by
  have Y : ∀ i, i < 20 → ((((b2, .inl (E 0, 80, .inl (xfil (-1) (fun _ => 0) 80))) :: (b1, .inl (E 0, 80, .inl (fun _ => 0))) :: (o59, .inr (4, [.ref b1, .ref b2])) :: (a52, .inl (E 8, 20, .inr (.inr (.inr (.inr (fun j => ys[j]?)))))) :: (a43, .inl (E 7, 60, .inr (.inr (.inr (.inr (fun _ => none)))))) :: (a34, .inl (E 6, 60, .inr (.inr (.inr (.inr (fun _ => none)))))) :: (a25, .inl (E 5, 60, .inr (.inr (.inr (.inr (fun _ => none)))))) :: (a16, .inl (E 4, 24, .inr (.inr (.inr (.inr (fun _ => none)))))) :: (a7, .inl (E 3, 12, .inr (.inr (.inr (.inr (fun _ => none)))))) :: (q, .inr (7, [.ref a7, .ref a16, .ref a25, .ref a34, .ref a43, .ref a52, .ref o59, .int 0, .int 0, .int 0, .int 0, .int 0, .int 0, .long 0])) :: []) ++ ys.map (fun y => (y, .inr (6, [.int 0, .int 0, .int 0, .int 0, .int 0, .int 0, .int 0])))) : List (Nat × va_E))[10 + i]? = some ((adS a7 a16 a25 a34 a43 a52 o59 b1 b2 q ys) 18 i, .inr (6, [.int 0, .int 0, .int 0, .int 0, .int 0, .int 0, .int 0])) := by
    intro i hi
    have h1 : i < ys.length := by omega
    rw [List.getElem?_append_right (by show 10 ≤ 10 + i; omega)]
    show (ys.map _)[10 + i - 10]? = _
    rw [show 10 + i - 10 = i by omega, List.getElem?_map, List.getElem?_eq_getElem h1]
    show some (ys[i], _) = some ((ys[i]?).getD 0, _)
    rw [List.getElem?_eq_getElem h1]
    rfl
  have A : ∀ K i, clive cS0 K i → ∃ e, ((((b2, .inl (E 0, 80, .inl (xfil (-1) (fun _ => 0) 80))) :: (b1, .inl (E 0, 80, .inl (fun _ => 0))) :: (o59, .inr (4, [.ref b1, .ref b2])) :: (a52, .inl (E 8, 20, .inr (.inr (.inr (.inr (fun j => ys[j]?)))))) :: (a43, .inl (E 7, 60, .inr (.inr (.inr (.inr (fun _ => none)))))) :: (a34, .inl (E 6, 60, .inr (.inr (.inr (.inr (fun _ => none)))))) :: (a25, .inl (E 5, 60, .inr (.inr (.inr (.inr (fun _ => none)))))) :: (a16, .inl (E 4, 24, .inr (.inr (.inr (.inr (fun _ => none)))))) :: (a7, .inl (E 3, 12, .inr (.inr (.inr (.inr (fun _ => none)))))) :: (q, .inr (7, [.ref a7, .ref a16, .ref a25, .ref a34, .ref a43, .ref a52, .ref o59, .int 0, .int 0, .int 0, .int 0, .int 0, .int 0, .long 0])) :: []) ++ ys.map (fun y => (y, .inr (6, [.int 0, .int 0, .int 0, .int 0, .int 0, .int 0, .int 0])))) : List (Nat × va_E))[posS K i]? = some ((adS a7 a16 a25 a34 a43 a52 o59 b1 b2 q ys) K i, e) := by
    intro K i hl
    match K, hl with
    | 0, _ => exact ⟨_, rfl⟩
    | 1, _ => exact ⟨_, rfl⟩
    | 2, _ => exact ⟨_, rfl⟩
    | 3, _ => exact ⟨_, rfl⟩
    | 4, _ => exact ⟨_, rfl⟩
    | 5, _ => exact ⟨_, rfl⟩
    | 6, _ => exact ⟨_, rfl⟩
    | 7, _ => exact ⟨_, rfl⟩
    | 8, _ => exact ⟨_, rfl⟩
    | 9, _ => exact ⟨_, rfl⟩
    | 10, hl => exact absurd hl (Nat.not_lt_zero i)
    | 11, hl => exact absurd hl (Nat.not_lt_zero i)
    | 12, hl => exact absurd hl (Nat.not_lt_zero i)
    | 13, hl => exact absurd hl (Nat.not_lt_zero i)
    | 14, hl => exact absurd hl (Nat.not_lt_zero i)
    | 15, hl => exact absurd hl (Nat.not_lt_zero i)
    | 16, hl => exact absurd hl (Nat.not_lt_zero i)
    | 17, hl => exact absurd hl (Nat.not_lt_zero i)
    | 18, hl => exact ⟨_, Y i hl⟩
  have Pz : ∀ K i K' i', clive cS0 K i → clive cS0 K' i' → posS K i = posS K' i' → K = K' ∧ i = i' := by
    intro K i K' i' h1 h2 hz
    have key : ∀ K i, clive cS0 K i → (K < 10 ∧ i = 0 ∧ posS K i < 10 ∧ posS K i + K = 9) ∨ (K = 18 ∧ posS K i = 10 + i) := by
      intro K i hl
      match K, hl with
      | 0, hl => exact Or.inl ⟨by decide, hl, by show 9 < 10; decide, rfl⟩
      | 1, hl => exact Or.inl ⟨by decide, hl, by show 8 < 10; decide, rfl⟩
      | 2, hl => exact Or.inl ⟨by decide, hl, by show 7 < 10; decide, rfl⟩
      | 3, hl => exact Or.inl ⟨by decide, hl, by show 6 < 10; decide, rfl⟩
      | 4, hl => exact Or.inl ⟨by decide, hl, by show 5 < 10; decide, rfl⟩
      | 5, hl => exact Or.inl ⟨by decide, hl, by show 4 < 10; decide, rfl⟩
      | 6, hl => exact Or.inl ⟨by decide, hl, by show 3 < 10; decide, rfl⟩
      | 7, hl => exact Or.inl ⟨by decide, hl, by show 2 < 10; decide, rfl⟩
      | 8, hl => exact Or.inl ⟨by decide, hl, by show 1 < 10; decide, rfl⟩
      | 9, hl => exact Or.inl ⟨by decide, hl, by show 0 < 10; decide, rfl⟩
      | 10, hl => exact absurd hl (Nat.not_lt_zero i)
      | 11, hl => exact absurd hl (Nat.not_lt_zero i)
      | 12, hl => exact absurd hl (Nat.not_lt_zero i)
      | 13, hl => exact absurd hl (Nat.not_lt_zero i)
      | 14, hl => exact absurd hl (Nat.not_lt_zero i)
      | 15, hl => exact absurd hl (Nat.not_lt_zero i)
      | 16, hl => exact absurd hl (Nat.not_lt_zero i)
      | 17, hl => exact absurd hl (Nat.not_lt_zero i)
      | 18, hl => exact Or.inr ⟨rfl, rfl⟩
    rcases key K i h1 with ⟨a1, a2, a3, a4⟩ | ⟨a1, a2⟩ <;> rcases key K' i' h2 with ⟨b1, b2, b3, b4⟩ | ⟨b1, b2⟩ <;> omega
  refine ⟨fun K i hl => ?_, fun K i K' i' h1 h2 hz => ?_, fun K i hl hp => ?_, fun b hb => ?_, ?_⟩
  · match K, hl with
    | 0, hl => exact hN.get (k := 9) rfl
    | 1, hl => exact hN.get (k := 8) rfl
    | 2, hl => exact hN.get (k := 7) rfl
    | 3, hl => exact hN.get (k := 6) rfl
    | 4, hl => exact hN.get (k := 5) rfl
    | 5, hl => exact hN.get (k := 4) rfl
    | 6, hl => exact hN.get (k := 3) rfl
    | 7, hl => exact hN.get (k := 2) rfl
    | 8, hl => exact hN.get (k := 1) rfl
    | 9, hl => exact hN.get (k := 0) rfl
    | 10, hl => exact absurd hl (Nat.not_lt_zero i)
    | 11, hl => exact absurd hl (Nat.not_lt_zero i)
    | 12, hl => exact absurd hl (Nat.not_lt_zero i)
    | 13, hl => exact absurd hl (Nat.not_lt_zero i)
    | 14, hl => exact absurd hl (Nat.not_lt_zero i)
    | 15, hl => exact absurd hl (Nat.not_lt_zero i)
    | 16, hl => exact absurd hl (Nat.not_lt_zero i)
    | 17, hl => exact absurd hl (Nat.not_lt_zero i)
    | 18, hl => exact hN.get (k := 10 + i) (Y i hl)
  · obtain ⟨e1, g1⟩ := A K i h1
    obtain ⟨e2, g2⟩ := A K' i' h2
    exact Pz K i K' i' h1 h2 (hN.2.2.1 _ _ _ _ g1 g2 hz)
  · obtain ⟨e1, g1⟩ := A K i hl
    exact hP _ hp (hN.2.1 _ _ g1)
  · rw [hN.old (hP b hb)]; exact hP b hb
  · refine ⟨fun j hj => absurd hj (Nat.not_lt_zero j), fun j hj => absurd hj (Nat.not_lt_zero j), fun j hj => absurd hj (Nat.not_lt_zero j), fun j hj => absurd hj (Nat.not_lt_zero j), fun j hj => absurd hj (Nat.not_lt_zero j), fun j hj => ?_⟩
    show ys[j]? = some ((ys[j]?).getD 0)
    rw [List.getElem?_eq_getElem (show j < ys.length by omega)]
    rfl
theorem CW0 : CW cS0 := by
  refine ⟨by decide, ?_, ?_, ?_, ?_, ?_, ?_, ?_, ?_, ?_, ?_, ?_, ?_, ?_⟩
  all_goals first | (intro k hk; exact absurd hk (Nat.not_lt_zero k)) | (intro k; exact Or.inl rfl) | (intro m y; exact Or.inl rfl)
/-- more is protected -/
theorem RC.more {E : Nat → ClassId} {Pr Pr1 : Nat → Prop} {τ : CT} {ad : Nat → Nat → Nat} {fa : Nat → Nat → Option Nat} {h h1 : XW} (hR : RC E Pr τ ad fa h) (hk : ∀ b, h b ≠ none → h1 b = h b) (hP : ∀ b, Pr1 b → h1 b ≠ none) (hn : ∀ b, Pr1 b → Pr b ∨ h b = none) : RC E Pr1 τ ad fa h1 :=
  ⟨fun K i hl => by rw [hk _ (hR.isS hl)]; exact hR.1 K i hl, hR.2.1, fun K i hl hp => (hn _ hp).elim (hR.2.2.1 K i hl) (hR.isS hl), hP, hR.2.2.2.2⟩
