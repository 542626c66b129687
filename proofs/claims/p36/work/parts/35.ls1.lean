def fS359_B465 (σ : LT) (τ : CT) (q12 : Int64) (n14 : Nat) (n15 : Nat) (n16 : Nat) (n17 : Nat) (w24 : Nat) (v444_0 : Int32) (x451 : (Int32 × CT)) (v465_0 : Int32) : Option ST := (if x451.1 = v465_0 then (if v444_0 = 0 then (some (σ, x451.2, q12, n14, n15, n16, n17)) else (some ((lSK (lSK (lSK σ 0 (3 * n14) w24) 0 (3 * n14 + 1) n17) 0 (3 * n14 + 2) 9999), x451.2, q12, n14 + 1, n15, n16, n17))) else none)
def fS359_B444 (σ : LT) (τ : CT) (q12 : Int64) (n14 : Nat) (n15 : Nat) (n16 : Nat) (n17 : Nat) (w24 : Nat) (v444_0 : Int32) : Option ST := (lcall none (fL_tried2 τ (nI w24)) (fun x451 => (fS359_B465 σ τ q12 n14 n15 n16 n17 w24 v444_0 x451 (if v444_0 = 0 then (-9) else (nI 0)))))
def fS359_S365 (σ : LT) (τ : CT) (q12 : Int64) (n14 : Nat) (n15 : Nat) (n16 : Nat) (n17 : Nat) (w24 : Nat) (k365 : Nat) (a365_26 : Int32) : (Int32) := (if lK σ 0 (3 * k365) = w24 then (if lK σ 0 (3 * k365 + 2) = 9999 then (nI k365) else a365_26) else a365_26)
def fS359_L365 (σ : LT) (τ : CT) (q12 : Int64) (n14 : Nat) (n15 : Nat) (n16 : Nat) (n17 : Nat) (w24 : Nat) : Nat → Nat → Int32 → Option ST
  | 0, k365, a365_26 => (fS359_B444 σ τ q12 n14 n15 n16 n17 w24 (if 0 ≤ a365_26 then (nI 0) else (if 299 < n17 then (nI 1) else (if (lI σ 7 (3 * (lK σ 1 w24) + (n17 / 100))) = (nI 1) then (nI 0) else (nI 1)))))
  | n365 + 1, k365, a365_26 => lseq (fS359_S365 σ τ q12 n14 n15 n16 n17 w24 k365 a365_26) (fun q => fS359_L365 σ τ q12 n14 n15 n16 n17 w24 n365 (k365 + 1) q)
def fS359 (σ : LT) (τ : CT) (q12 : Int64) (n14 : Nat) (n15 : Nat) (n16 : Nat) (n17 : Nat) (w24 : Nat) : Option ST := (fS359_L365 σ τ q12 n14 n15 n16 n17 w24 n14 0 (-1))
set_option maxHeartbeats 4000000 in
set_option maxRecDepth 100000 in
theorem sS359 {p : Program} {l : Launch} {e : Env} {s : State} {m : MethodId} {below : List Frame} {meth : Method} {c : Code} {b L : Nat} {xs : Nat → Int32} {Q : State → Prop} {D : va_G} {E : Nat → ClassId} {σ : LT} {τ : CT} {ad : Nat → Nat → Nat} {fa : Nat → Nat → Option Nat} {ar : Nat → Nat} {h : XW} {H : Heap} {locs : List Loc} {cells slots K Ks : Nat}  {q12 : Int64} {n14 n15 n16 n17 n18 n19 : Nat} {w24 : Nat} {st : ST} {ls : Array Slot} (F : LF p l s m c b L xs) (I : XI s.heap.size D E h s H) (hL : RA E σ ar h) (hR : RC E (lPr ar) τ ad fa h) (hS : va_S (xA s.heap.size) s.heap H locs) (hW : LW σ) (hC : CW τ)  (h14 : n14 ≤ 12) (h15 : n15 ≤ 10) (h16 : n16 ≤ 10) (h17 : n17 < 300) (h18 : n18 < 1000) (h19 : n19 < 44) (h24 : w24 < 5) (hc1 : cells + 100 ≤ K) (hc2 : slots + 1000 ≤ Ks) (hK1 : K ≤ 600086) (hK2 : Ks ≤ 7301442) (hl : lv_has ls 39 [(0, .ref b), (1, .ref (ad 0 0)), (2, .ref (ar 0)), (3, .ref (ar 1)), (4, .ref (ar 2)), (5, .ref (ar 3)), (6, .ref (ar 4)), (7, .ref (ar 5)), (8, .ref (ar 6)), (9, .ref (ar 8)), (10, .ref (ar 7)), (11, .ref (ar 9)), (12, .long q12), (14, .int (nI n14)), (15, .int (nI n15)), (16, .int (nI n16)), (17, .int (nI n17)), (18, .int (nI n18)), (19, .int (nI n19)), (24, .int (nI w24))]) (kk : lKK p l e s m below meth c b D E ar Q K Ks n18 n19 2560 st) (hG : fS359 σ τ q12 n14 n15 n16 n17 w24 = some st) : W p l e room_1 s m #[Value.ref b] below meth c H locs cells slots Q (F0 m 359 ls []) := by
  obtain ⟨hx, hb, hml, hown, hts, hX, hbl, hCa, hlst, hLL⟩ := id F
  have hbA : ¬ xA s.heap.size b := Nat.not_le.mpr hbl
  unfold fS359 at hG
  refine lv_iconst (v := (-1)) hx hb dL_law_359 (by decide) ?_
  refine lv_istore (lv' := [(26, .int (-1)), (0, .ref b), (1, .ref (ad 0 0)), (2, .ref (ar 0)), (3, .ref (ar 1)), (4, .ref (ar 2)), (5, .ref (ar 3)), (6, .ref (ar 4)), (7, .ref (ar 5)), (8, .ref (ar 6)), (9, .ref (ar 8)), (10, .ref (ar 7)), (11, .ref (ar 9)), (12, .long q12), (14, .int (nI n14)), (15, .int (nI n15)), (16, .int (nI n16)), (17, .int (nI n17)), (18, .int (nI n18)), (19, .int (nI n19)), (24, .int (nI w24))]) hx hb dL_law_360 hl (by decide) rfl (fun ls hl => ?_)
  refine lv_iconst (v := (nI 0)) hx hb dL_law_362 (by decide) ?_
  refine lv_istore (lv' := [(27, .int (nI 0)), (26, .int (-1)), (0, .ref b), (1, .ref (ad 0 0)), (2, .ref (ar 0)), (3, .ref (ar 1)), (4, .ref (ar 2)), (5, .ref (ar 3)), (6, .ref (ar 4)), (7, .ref (ar 5)), (8, .ref (ar 6)), (9, .ref (ar 8)), (10, .ref (ar 7)), (11, .ref (ar 9)), (12, .long q12), (14, .int (nI n14)), (15, .int (nI n15)), (16, .int (nI n16)), (17, .int (nI n17)), (18, .int (nI n18)), (19, .int (nI n19)), (24, .int (nI w24))]) hx hb dL_law_363 hl (by decide) rfl (fun ls hl => ?_)
  have L365 : ∀ (n365 : Nat) (k365 : Nat) (a365_26 : Int32), k365 + n365 = n14 → fS359_L365 σ τ q12 n14 n15 n16 n17 w24 n365 k365 a365_26 = some st → ∀ ls : Array Slot, lv_has ls 39 [(0, .ref b), (1, .ref (ad 0 0)), (2, .ref (ar 0)), (3, .ref (ar 1)), (4, .ref (ar 2)), (5, .ref (ar 3)), (6, .ref (ar 4)), (7, .ref (ar 5)), (8, .ref (ar 6)), (9, .ref (ar 8)), (10, .ref (ar 7)), (11, .ref (ar 9)), (12, .long q12), (14, .int (nI n14)), (15, .int (nI n15)), (16, .int (nI n16)), (17, .int (nI n17)), (18, .int (nI n18)), (19, .int (nI n19)), (24, .int (nI w24)), (26, .int a365_26), (27, .int (nI k365))] → W p l e room_1 s m #[Value.ref b] below meth c H locs cells slots Q (F0 m 365 ls []) := by
    intro n365
    induction n365 with
    | zero =>
      intro k365 a365_26 hkn hG ls hl
      have hkN : k365 = n14 := by omega
      have hG : (fS359_B444 σ τ q12 n14 n15 n16 n17 w24 (if 0 ≤ a365_26 then (nI 0) else (if 299 < n17 then (nI 1) else (if (lI σ 7 (3 * (lK σ 1 w24) + (n17 / 100))) = (nI 1) then (nI 0) else (nI 1))))) = some st := hG
      refine lv_iload hx hb dL_law_365 (lv_at hl 21 rfl) ?_
      refine lv_iload hx hb dL_law_367 (lv_at hl 13 rfl) ?_
      refine lv_icmp_ge (tgt := 407) hx hb dL_law_369 (by decide) (fun _ => ?_) (fun q => absurd (nI_le (Nat.le_of_eq hkN.symm) (by omega)) q)
      refine lv_iload hx hb dL_law_407 (lv_at hl 20 rfl) ?_
      have B444 : ∀ (v444_0 : Int32), (v444_0 = 0 ∨ v444_0 = 1) → fS359_B444 σ τ q12 n14 n15 n16 n17 w24 v444_0 = some st → ∀ ls : Array Slot, lv_has ls 39 [(0, .ref b), (1, .ref (ad 0 0)), (2, .ref (ar 0)), (3, .ref (ar 1)), (4, .ref (ar 2)), (5, .ref (ar 3)), (6, .ref (ar 4)), (7, .ref (ar 5)), (8, .ref (ar 6)), (9, .ref (ar 8)), (10, .ref (ar 7)), (11, .ref (ar 9)), (12, .long q12), (14, .int (nI n14)), (15, .int (nI n15)), (16, .int (nI n16)), (17, .int (nI n17)), (18, .int (nI n18)), (19, .int (nI n19)), (24, .int (nI w24))] → W p l e room_1 s m #[Value.ref b] below meth c H locs cells slots Q (F0 m 444 ls [.int v444_0]) := by
        intro v444_0 zv444_0 hG ls hl
        unfold fS359_B444 at hG
        refine lv_istore (lv' := [(27, .int v444_0), (0, .ref b), (1, .ref (ad 0 0)), (2, .ref (ar 0)), (3, .ref (ar 1)), (4, .ref (ar 2)), (5, .ref (ar 3)), (6, .ref (ar 4)), (7, .ref (ar 5)), (8, .ref (ar 6)), (9, .ref (ar 8)), (10, .ref (ar 7)), (11, .ref (ar 9)), (12, .long q12), (14, .int (nI n14)), (15, .int (nI n15)), (16, .int (nI n16)), (17, .int (nI n17)), (18, .int (nI n18)), (19, .int (nI n19)), (24, .int (nI w24))]) hx hb dL_law_444 hl (by decide) rfl (fun ls hl => ?_)
        refine lv_aload_n hx hb dL_law_446 rfl (lv_at hl 2 rfl) ?_
        refine lv_iconst (v := (nI 2)) hx hb dL_law_447 (by decide) ?_
        refine lv_iload hx hb dL_law_448 (lv_at hl 20 rfl) ?_
        refine lv_iconst (v := (nI 0)) hx hb dL_law_450 (by decide) ?_
        cases e451 : (fL_tried2 τ (nI w24)) with
        | inl En => rw [e451] at hG; exact absurd (show (none : Option ST) = some st from hG) (fun z => nomatch z)
        | inr x451 =>
          rw [e451] at hG
          have hG : (fS359_B465 σ τ q12 n14 n15 n16 n17 w24 v444_0 x451 (if v444_0 = 0 then (-9) else (nI 0))) = some st := hG
          refine xcsB (As := [.ref (ad 0 0), .int (nI 2), .int (nI w24), .int (nI 0)]) (rest := []) ⟨hx, hb, hml, hown, hts⟩ (mL_tried2 l s.heap.size D E h hlst (lPr ar) τ ad fa hR hC (nI w24) (nI 0) ⟨_, e451⟩) (vx_cwSW 4 hts gL_law_L_tried rfl rfl rfl (by decide +kernel) ⟨Nat.le_of_ble_eq_true rfl, Nat.le_of_ble_eq_true rfl⟩) I hCa hS rfl hl.1 rfl (Nat.le_of_ble_eq_true rfl) dL_law_451 ⟨show cells + 3 ≤ 600086 by omega, show slots + 18 ≤ 7301442 by omega⟩ (fun v9 hw H locs q9 I hS => ?_)
          obtain ⟨y9, e9, q1, ad_451, fa_451, hR, hF, hC, h00_451⟩ := q9
          have e9 := Sum.inr.inj (e451.symm.trans e9)
          subst e9
          subst q1
          have hL := hL.keep hF
          try rw [← h00_451] at hl
          refine W.eq (g2 := F0 m 454 ls [.int x451.1]) rfl ?_
          refine lv_iload hx hb dL_law_454 (lv_at hl 0 rfl) ?_
          have B465 : ∀ (v465_0 : Int32), fS359_B465 σ τ q12 n14 n15 n16 n17 w24 v444_0 x451 v465_0 = some st → ∀ ls : Array Slot, lv_has ls 39 [(0, .ref b), (1, .ref (ad_451 0 0)), (2, .ref (ar 0)), (3, .ref (ar 1)), (4, .ref (ar 2)), (5, .ref (ar 3)), (6, .ref (ar 4)), (7, .ref (ar 5)), (8, .ref (ar 6)), (9, .ref (ar 8)), (10, .ref (ar 7)), (11, .ref (ar 9)), (12, .long q12), (14, .int (nI n14)), (15, .int (nI n15)), (16, .int (nI n16)), (17, .int (nI n17)), (18, .int (nI n18)), (19, .int (nI n19)), (24, .int (nI w24)), (27, .int v444_0)] → W p l e room_1 s m #[Value.ref b] below meth c H locs (cells + 3) (slots + 18) Q (F0 m 465 ls [.int v465_0, .int x451.1]) := by
            intro v465_0 hG ls hl
            unfold fS359_B465 at hG
            refine lv_icmp_eq (tgt := 470) hx hb dL_law_465 (by decide) (fun c_465 => ?_) (fun c_465 => ?_)
            · skip
              rw [if_pos c_465] at hG
              refine lv_iload hx hb dL_law_470 (lv_at hl 20 rfl) ?_
              refine lv_if_eq (tgt := 507) hx hb dL_law_472 (by decide) (fun c_472 => ?_) (fun c_472 => ?_)
              · skip
                rw [if_pos c_472] at hG
                refine lv_goto (tgt := 2560) hx hb dL_law_507 (by decide) ?_
                have hst := Option.some.inj (show some (σ, x451.2, q12, n14, n15, n16, n17) = some st from hG)
                subst hst
                exact W.widen (by omega) (by omega) (kk _ _ _ _ _ _ I hL hR hS hW hC (lv_sub hl [0, 1, 2, 3, 4, 5, 6, 7, 8, 9, 10, 11, 12, 13, 14, 15, 16, 17, 18] rfl))
              · skip
                rw [if_neg c_472] at hG
                refine lv_aload_n hx hb dL_law_475 rfl (lv_at hl 2 rfl) ?_
                refine lv_iconst (v := (nI 3)) hx hb dL_law_476 (by decide) ?_
                refine lv_iload hx hb dL_law_477 (lv_at hl 13 rfl) ?_
                refine lv_imul hx hb dL_law_479 ?_
                refine xtop (y := .int (nI (3 * n14))) (congrArg Value.int (pk_mul _ _)) ?_
                refine lv_iload hx hb dL_law_480 (lv_at hl 19 rfl) ?_
                refine xkS (x := w24) (i := (3 * n14)) (n := 40) 0 hx hb I hS hL hR (by decide) (by omega) (by decide) dL_law_482 (fun H locs hw I hL hR hS => ?_)
                have hW : LW (lSK σ 0 (3 * n14) w24) := hW.sK 0 (3 * n14) w24 (by omega) (by intro z q; first | exact absurd z (by decide) | omega | (obtain ⟨i, hi⟩ := q; omega)) (by intro z q; first | exact absurd z (by decide) | omega | (obtain ⟨i, hi⟩ := q; omega)) (by intro z q; first | exact absurd z (by decide) | omega | (obtain ⟨i, hi⟩ := q; omega)) (by intro z q; first | exact absurd z (by decide) | omega | (obtain ⟨i, hi⟩ := q; omega)) (by intro z q; first | exact absurd z (by decide) | omega | (obtain ⟨i, hi⟩ := q; omega))
                refine lv_aload_n hx hb dL_law_483 rfl (lv_at hl 2 rfl) ?_
                refine lv_iconst (v := (nI 3)) hx hb dL_law_484 (by decide) ?_
                refine lv_iload hx hb dL_law_485 (lv_at hl 13 rfl) ?_
                refine lv_imul hx hb dL_law_487 ?_
                refine xtop (y := .int (nI (3 * n14))) (congrArg Value.int (pk_mul _ _)) ?_
                refine lv_iconst (v := (nI 1)) hx hb dL_law_488 (by decide) ?_
                refine lv_iadd hx hb dL_law_489 ?_
                refine xtop (y := .int (nI (3 * n14 + 1))) (congrArg Value.int (nI_add _ _)) ?_
                refine lv_iload hx hb dL_law_490 (lv_at hl 16 rfl) ?_
                refine xkS (x := n17) (i := (3 * n14 + 1)) (n := 40) 0 hx hb I hS hL hR (by decide) (by omega) (by decide) dL_law_492 (fun H locs hw I hL hR hS => ?_)
                have hW : LW (lSK (lSK σ 0 (3 * n14) w24) 0 (3 * n14 + 1) n17) := hW.sK 0 (3 * n14 + 1) n17 (by omega) (by intro z q; first | exact absurd z (by decide) | omega | (obtain ⟨i, hi⟩ := q; omega)) (by intro z q; first | exact absurd z (by decide) | omega | (obtain ⟨i, hi⟩ := q; omega)) (by intro z q; first | exact absurd z (by decide) | omega | (obtain ⟨i, hi⟩ := q; omega)) (by intro z q; first | exact absurd z (by decide) | omega | (obtain ⟨i, hi⟩ := q; omega)) (by intro z q; first | exact absurd z (by decide) | omega | (obtain ⟨i, hi⟩ := q; omega))
                refine lv_aload_n hx hb dL_law_493 rfl (lv_at hl 2 rfl) ?_
                refine lv_iconst (v := (nI 3)) hx hb dL_law_494 (by decide) ?_
                refine lv_iload hx hb dL_law_495 (lv_at hl 13 rfl) ?_
                refine lv_imul hx hb dL_law_497 ?_
                refine xtop (y := .int (nI (3 * n14))) (congrArg Value.int (pk_mul _ _)) ?_
                refine lv_iconst (v := (nI 2)) hx hb dL_law_498 (by decide) ?_
                refine lv_iadd hx hb dL_law_499 ?_
                refine xtop (y := .int (nI (3 * n14 + 2))) (congrArg Value.int (nI_add _ _)) ?_
                refine lv_sipush (v := (nI 9999)) hx hb dL_law_500 (by decide) ?_
                refine xkS (x := 9999) (i := (3 * n14 + 2)) (n := 40) 0 hx hb I hS hL hR (by decide) (by omega) (by decide) dL_law_503 (fun H locs hw I hL hR hS => ?_)
                have hW : LW (lSK (lSK (lSK σ 0 (3 * n14) w24) 0 (3 * n14 + 1) n17) 0 (3 * n14 + 2) 9999) := hW.sK 0 (3 * n14 + 2) 9999 (by omega) (by intro z q; first | exact absurd z (by decide) | omega | (obtain ⟨i, hi⟩ := q; omega)) (by intro z q; first | exact absurd z (by decide) | omega | (obtain ⟨i, hi⟩ := q; omega)) (by intro z q; first | exact absurd z (by decide) | omega | (obtain ⟨i, hi⟩ := q; omega)) (by intro z q; first | exact absurd z (by decide) | omega | (obtain ⟨i, hi⟩ := q; omega)) (by intro z q; first | exact absurd z (by decide) | omega | (obtain ⟨i, hi⟩ := q; omega))
                refine lv_iinc (v := (nI (n14 + 1))) (lv' := [(14, .int (nI (n14 + 1))), (0, .ref b), (1, .ref (ad_451 0 0)), (2, .ref (ar 0)), (3, .ref (ar 1)), (4, .ref (ar 2)), (5, .ref (ar 3)), (6, .ref (ar 4)), (7, .ref (ar 5)), (8, .ref (ar 6)), (9, .ref (ar 8)), (10, .ref (ar 7)), (11, .ref (ar 9)), (12, .long q12), (15, .int (nI n15)), (16, .int (nI n16)), (17, .int (nI n17)), (18, .int (nI n18)), (19, .int (nI n19)), (24, .int (nI w24)), (27, .int v444_0)]) hx hb dL_law_504 hl (k := 13) rfl (nI_succ n14).symm (by decide) rfl (fun ls hl => ?_)
                refine lv_goto (tgt := 2560) hx hb dL_law_507 (by decide) ?_
                have hst := Option.some.inj (show some ((lSK (lSK (lSK σ 0 (3 * n14) w24) 0 (3 * n14 + 1) n17) 0 (3 * n14 + 2) 9999), x451.2, q12, n14 + 1, n15, n16, n17) = some st from hG)
                subst hst
                exact W.widen (by omega) (by omega) (kk _ _ _ _ _ _ I hL hR hS hW hC (lv_sub hl [1, 2, 3, 4, 5, 6, 7, 8, 9, 10, 11, 12, 13, 0, 14, 15, 16, 17, 18] rfl))
            · skip
              rw [if_neg c_465] at hG
              refine lv_iconst (v := (nI 0)) hx hb dL_law_468 (by decide) ?_
              exact absurd (show (none : Option ST) = some st from hG) (fun z => nomatch z)
          refine lv_if_eq (tgt := 463) hx hb dL_law_456 (by decide) (fun c_456 => ?_) (fun c_456 => ?_)
          · skip
            rw [if_pos c_456] at hG
            refine lv_bipush (v := (-9)) hx hb dL_law_463 (by decide) ?_
            exact B465 (-9) hG ls (lv_sub hl [1, 2, 3, 4, 5, 6, 7, 8, 9, 10, 11, 12, 13, 14, 15, 16, 17, 18, 19, 20, 0] rfl)
          · skip
            rw [if_neg c_456] at hG
            refine lv_iconst (v := (nI 0)) hx hb dL_law_459 (by decide) ?_
            refine lv_goto (tgt := 465) hx hb dL_law_460 (by decide) ?_
            exact B465 (nI 0) hG ls (lv_sub hl [1, 2, 3, 4, 5, 6, 7, 8, 9, 10, 11, 12, 13, 14, 15, 16, 17, 18, 19, 20, 0] rfl)
      refine lv_if_ge (tgt := 443) hx hb dL_law_409 (by decide) (fun c_409 => ?_) (fun c_409 => ?_)
      · skip
        rw [if_pos c_409] at hG
        refine lv_iconst (v := (nI 0)) hx hb dL_law_443 (by decide) ?_
        exact B444 (nI 0) (Or.inl rfl) hG ls (lv_sub hl [0, 1, 2, 3, 4, 5, 6, 7, 8, 9, 10, 11, 12, 13, 14, 15, 16, 17, 18, 19] rfl)
      · skip
        rw [if_neg c_409] at hG
        refine lv_iload hx hb dL_law_412 (lv_at hl 16 rfl) ?_
        refine lv_sipush (v := (nI 299)) hx hb dL_law_414 (by decide) ?_
        refine lv_icmp_gt (tgt := 439) hx hb dL_law_417 (by decide) (fun c_417 => ?_) (fun c_417 => ?_)
        · skip
          have c_417 : 299 < n17 := (nI_ltI (a := 299) (b := n17) (by omega) (by omega)).mp c_417
          rw [if_pos c_417] at hG
          refine lv_iconst (v := (nI 1)) hx hb dL_law_439 (by decide) ?_
          refine lv_goto (tgt := 444) hx hb dL_law_440 (by decide) ?_
          exact B444 (nI 1) (Or.inr rfl) hG ls (lv_sub hl [0, 1, 2, 3, 4, 5, 6, 7, 8, 9, 10, 11, 12, 13, 14, 15, 16, 17, 18, 19] rfl)
        · skip
          have c_417 : ¬ 299 < n17 := fun q => c_417 ((nI_ltI (a := 299) (b := n17) (by omega) (by omega)).mpr q)
          rw [if_neg c_417] at hG
          refine lv_aload hx hb dL_law_420 (lv_at hl 10 rfl) ?_
          refine lv_iconst (v := (nI 3)) hx hb dL_law_422 (by decide) ?_
          refine lv_aload_n hx hb dL_law_423 rfl (lv_at hl 3 rfl) ?_
          refine lv_iload hx hb dL_law_424 (lv_at hl 19 rfl) ?_
          refine xiald (i := w24) (n := 16) hx hb I (hL.1 1 16 (by decide)) (by omega) (by decide) dL_law_426 ?_
          have g426 : lK σ 1 w24 < 1073741824 := hW.2.2.2.2.2.1 1 w24
          have b426 : lK σ 1 w24 < 3 := hW.2.1 w24 (by omega)
          refine lv_imul hx hb dL_law_427 ?_
          refine xtop (y := .int (nI (3 * (lK σ 1 w24)))) (congrArg Value.int (pk_mul _ _)) ?_
          refine lv_iload hx hb dL_law_428 (lv_at hl 16 rfl) ?_
          refine lv_bipush (v := (nI 100)) hx hb dL_law_430 (by decide) ?_
          refine lv_idiv hx hb dL_law_432 (by decide) ?_
          refine xtop (y := .int (nI (n17 / 100))) (congrArg Value.int (pk_div (by omega) (by decide) (by decide))) ?_
          refine lv_iadd hx hb dL_law_433 ?_
          refine xtop (y := .int (nI (3 * (lK σ 1 w24) + (n17 / 100)))) (congrArg Value.int (nI_add _ _)) ?_
          refine xiald (i := (3 * (lK σ 1 w24) + (n17 / 100))) (n := 16) hx hb I (hL.2.1 7 16 (by decide)) (by omega) (by decide) dL_law_434 ?_
          refine lv_iconst (v := (nI 1)) hx hb dL_law_435 (by decide) ?_
          refine lv_icmp_eq (tgt := 443) hx hb dL_law_436 (by decide) (fun c_436 => ?_) (fun c_436 => ?_)
          · skip
            rw [if_pos c_436] at hG
            refine lv_iconst (v := (nI 0)) hx hb dL_law_443 (by decide) ?_
            exact B444 (nI 0) (Or.inl rfl) hG ls (lv_sub hl [0, 1, 2, 3, 4, 5, 6, 7, 8, 9, 10, 11, 12, 13, 14, 15, 16, 17, 18, 19] rfl)
          · skip
            rw [if_neg c_436] at hG
            refine lv_iconst (v := (nI 1)) hx hb dL_law_439 (by decide) ?_
            refine lv_goto (tgt := 444) hx hb dL_law_440 (by decide) ?_
            exact B444 (nI 1) (Or.inr rfl) hG ls (lv_sub hl [0, 1, 2, 3, 4, 5, 6, 7, 8, 9, 10, 11, 12, 13, 14, 15, 16, 17, 18, 19] rfl)
    | succ n365 ih365 =>
      intro k365 a365_26 hkn hG ls hl
      have hk : k365 < n14 := by omega
      have hG : lseq ((if lK σ 0 (3 * k365) = w24 then (if lK σ 0 (3 * k365 + 2) = 9999 then (nI k365) else a365_26) else a365_26)) (fun q => fS359_L365 σ τ q12 n14 n15 n16 n17 w24 n365 (k365 + 1) q) = some st := hG
      refine lv_iload hx hb dL_law_365 (lv_at hl 21 rfl) ?_
      refine lv_iload hx hb dL_law_367 (lv_at hl 13 rfl) ?_
      refine lv_icmp_ge (tgt := 407) hx hb dL_law_369 (by decide) (fun q => absurd q (nI_ge hk (by omega))) (fun _ => ?_)
      refine lv_aload_n hx hb dL_law_372 rfl (lv_at hl 2 rfl) ?_
      refine lv_iconst (v := (nI 3)) hx hb dL_law_373 (by decide) ?_
      refine lv_iload hx hb dL_law_374 (lv_at hl 21 rfl) ?_
      refine lv_imul hx hb dL_law_376 ?_
      refine xtop (y := .int (nI (3 * k365))) (congrArg Value.int (pk_mul _ _)) ?_
      refine xiald (i := (3 * k365)) (n := 40) hx hb I (hL.1 0 40 (by decide)) (by omega) (by decide) dL_law_377 ?_
      have g377 : lK σ 0 (3 * k365) < 1073741824 := hW.2.2.2.2.2.1 0 (3 * k365)
      have b377 : lK σ 0 (3 * k365) < 5 := hW.1 k365
      refine lv_iload hx hb dL_law_378 (lv_at hl 19 rfl) ?_
      refine lv_icmp_ne (tgt := 401) hx hb dL_law_380 (by decide) (fun c_380 => ?_) (fun c_380 => ?_)
      · skip
        have c_380 : ¬ lK σ 0 (3 * k365) = w24 := fun q => c_380 ((nI_eq (a := (lK σ 0 (3 * k365))) (b := w24) (by omega) (by omega)).mpr q)
        rw [if_neg c_380] at hG
        refine lv_iinc (v := (nI (k365 + 1))) (lv' := [(27, .int (nI (k365 + 1))), (0, .ref b), (1, .ref (ad 0 0)), (2, .ref (ar 0)), (3, .ref (ar 1)), (4, .ref (ar 2)), (5, .ref (ar 3)), (6, .ref (ar 4)), (7, .ref (ar 5)), (8, .ref (ar 6)), (9, .ref (ar 8)), (10, .ref (ar 7)), (11, .ref (ar 9)), (12, .long q12), (14, .int (nI n14)), (15, .int (nI n15)), (16, .int (nI n16)), (17, .int (nI n17)), (18, .int (nI n18)), (19, .int (nI n19)), (24, .int (nI w24)), (26, .int a365_26)]) hx hb dL_law_401 hl (k := 21) rfl (nI_succ k365).symm (by decide) rfl (fun ls hl => ?_)
        refine lv_goto (tgt := 365) hx hb dL_law_404 (by decide) ?_
        exact ih365 (k365 + 1) a365_26 (by first | omega | (simp only [lSI_K]; omega)) hG ls (lv_sub hl [1, 2, 3, 4, 5, 6, 7, 8, 9, 10, 11, 12, 13, 14, 15, 16, 17, 18, 19, 20, 21, 0] rfl)
      · skip
        have c_380 : lK σ 0 (3 * k365) = w24 := (nI_eq (a := (lK σ 0 (3 * k365))) (b := w24) (by omega) (by omega)).mp c_380
        rw [if_pos c_380] at hG
        refine lv_aload_n hx hb dL_law_383 rfl (lv_at hl 2 rfl) ?_
        refine lv_iconst (v := (nI 3)) hx hb dL_law_384 (by decide) ?_
        refine lv_iload hx hb dL_law_385 (lv_at hl 21 rfl) ?_
        refine lv_imul hx hb dL_law_387 ?_
        refine xtop (y := .int (nI (3 * k365))) (congrArg Value.int (pk_mul _ _)) ?_
        refine lv_iconst (v := (nI 2)) hx hb dL_law_388 (by decide) ?_
        refine lv_iadd hx hb dL_law_389 ?_
        refine xtop (y := .int (nI (3 * k365 + 2))) (congrArg Value.int (nI_add _ _)) ?_
        refine xiald (i := (3 * k365 + 2)) (n := 40) hx hb I (hL.1 0 40 (by decide)) (by omega) (by decide) dL_law_390 ?_
        have g390 : lK σ 0 (3 * k365 + 2) < 1073741824 := hW.2.2.2.2.2.1 0 (3 * k365 + 2)
        refine lv_sipush (v := (nI 9999)) hx hb dL_law_391 (by decide) ?_
        refine lv_icmp_ne (tgt := 401) hx hb dL_law_394 (by decide) (fun c_394 => ?_) (fun c_394 => ?_)
        · skip
          have c_394 : ¬ lK σ 0 (3 * k365 + 2) = 9999 := fun q => c_394 ((nI_eq (a := (lK σ 0 (3 * k365 + 2))) (b := 9999) (by omega) (by omega)).mpr q)
          rw [if_neg c_394] at hG
          refine lv_iinc (v := (nI (k365 + 1))) (lv' := [(27, .int (nI (k365 + 1))), (0, .ref b), (1, .ref (ad 0 0)), (2, .ref (ar 0)), (3, .ref (ar 1)), (4, .ref (ar 2)), (5, .ref (ar 3)), (6, .ref (ar 4)), (7, .ref (ar 5)), (8, .ref (ar 6)), (9, .ref (ar 8)), (10, .ref (ar 7)), (11, .ref (ar 9)), (12, .long q12), (14, .int (nI n14)), (15, .int (nI n15)), (16, .int (nI n16)), (17, .int (nI n17)), (18, .int (nI n18)), (19, .int (nI n19)), (24, .int (nI w24)), (26, .int a365_26)]) hx hb dL_law_401 hl (k := 21) rfl (nI_succ k365).symm (by decide) rfl (fun ls hl => ?_)
          refine lv_goto (tgt := 365) hx hb dL_law_404 (by decide) ?_
          exact ih365 (k365 + 1) a365_26 (by first | omega | (simp only [lSI_K]; omega)) hG ls (lv_sub hl [1, 2, 3, 4, 5, 6, 7, 8, 9, 10, 11, 12, 13, 14, 15, 16, 17, 18, 19, 20, 21, 0] rfl)
        · skip
          have c_394 : lK σ 0 (3 * k365 + 2) = 9999 := (nI_eq (a := (lK σ 0 (3 * k365 + 2))) (b := 9999) (by omega) (by omega)).mp c_394
          rw [if_pos c_394] at hG
          refine lv_iload hx hb dL_law_397 (lv_at hl 21 rfl) ?_
          refine lv_istore (lv' := [(26, .int (nI k365)), (0, .ref b), (1, .ref (ad 0 0)), (2, .ref (ar 0)), (3, .ref (ar 1)), (4, .ref (ar 2)), (5, .ref (ar 3)), (6, .ref (ar 4)), (7, .ref (ar 5)), (8, .ref (ar 6)), (9, .ref (ar 8)), (10, .ref (ar 7)), (11, .ref (ar 9)), (12, .long q12), (14, .int (nI n14)), (15, .int (nI n15)), (16, .int (nI n16)), (17, .int (nI n17)), (18, .int (nI n18)), (19, .int (nI n19)), (24, .int (nI w24)), (27, .int (nI k365))]) hx hb dL_law_399 hl (by decide) rfl (fun ls hl => ?_)
          refine lv_iinc (v := (nI (k365 + 1))) (lv' := [(27, .int (nI (k365 + 1))), (26, .int (nI k365)), (0, .ref b), (1, .ref (ad 0 0)), (2, .ref (ar 0)), (3, .ref (ar 1)), (4, .ref (ar 2)), (5, .ref (ar 3)), (6, .ref (ar 4)), (7, .ref (ar 5)), (8, .ref (ar 6)), (9, .ref (ar 8)), (10, .ref (ar 7)), (11, .ref (ar 9)), (12, .long q12), (14, .int (nI n14)), (15, .int (nI n15)), (16, .int (nI n16)), (17, .int (nI n17)), (18, .int (nI n18)), (19, .int (nI n19)), (24, .int (nI w24))]) hx hb dL_law_401 hl (k := 21) rfl (nI_succ k365).symm (by decide) rfl (fun ls hl => ?_)
          refine lv_goto (tgt := 365) hx hb dL_law_404 (by decide) ?_
          exact ih365 (k365 + 1) (nI k365) (by first | omega | (simp only [lSI_K]; omega)) hG ls (lv_sub hl [2, 3, 4, 5, 6, 7, 8, 9, 10, 11, 12, 13, 14, 15, 16, 17, 18, 19, 20, 21, 1, 0] rfl)
  exact L365 n14 0 (-1) (by omega) hG ls (lv_sub hl [2, 3, 4, 5, 6, 7, 8, 9, 10, 11, 12, 13, 14, 15, 16, 17, 18, 19, 20, 21, 1, 0] rfl)

def fS516_B593 (σ : LT) (τ : CT) (q12 : Int64) (n14 : Nat) (n15 : Nat) (n16 : Nat) (n17 : Nat) (w24 : Nat) (a522_26 : Int32) (x569 : (Int32 × CT)) (v593_0 : Int32) : Option ST := (if x569.1 = v593_0 then (if a522_26 < 0 then (some (σ, x569.2, q12, n14, n15, n16, n17)) else (some ((lSK σ 0 (3 * (tn a522_26) + 2) n17), x569.2, q12, n14, n15, n16, n17))) else none)
def fS516_S522 (σ : LT) (τ : CT) (q12 : Int64) (n14 : Nat) (n15 : Nat) (n16 : Nat) (n17 : Nat) (w24 : Nat) (k522 : Nat) (a522_26 : Int32) : (Int32) := (if lK σ 0 (3 * k522) = w24 then (if lK σ 0 (3 * k522 + 2) = 9999 then (nI k522) else a522_26) else a522_26)
def fS516_L522 (σ : LT) (τ : CT) (q12 : Int64) (n14 : Nat) (n15 : Nat) (n16 : Nat) (n17 : Nat) (w24 : Nat) : Nat → Nat → Int32 → Option ST
  | 0, k522, a522_26 => (lcall none (fL_tried3 τ (nI w24)) (fun x569 => (fS516_B593 σ τ q12 n14 n15 n16 n17 w24 a522_26 x569 (if 0 ≤ a522_26 then ((nI n17) - (nI (lK σ 0 (3 * (tn a522_26) + 1)))) else (-9)))))
  | n522 + 1, k522, a522_26 => lseq (fS516_S522 σ τ q12 n14 n15 n16 n17 w24 k522 a522_26) (fun q => fS516_L522 σ τ q12 n14 n15 n16 n17 w24 n522 (k522 + 1) q)
def fS516 (σ : LT) (τ : CT) (q12 : Int64) (n14 : Nat) (n15 : Nat) (n16 : Nat) (n17 : Nat) (w24 : Nat) : Option ST := (fS516_L522 σ τ q12 n14 n15 n16 n17 w24 n14 0 (-1))
set_option maxHeartbeats 4000000 in
set_option maxRecDepth 100000 in
theorem sS516 {p : Program} {l : Launch} {e : Env} {s : State} {m : MethodId} {below : List Frame} {meth : Method} {c : Code} {b L : Nat} {xs : Nat → Int32} {Q : State → Prop} {D : va_G} {E : Nat → ClassId} {σ : LT} {τ : CT} {ad : Nat → Nat → Nat} {fa : Nat → Nat → Option Nat} {ar : Nat → Nat} {h : XW} {H : Heap} {locs : List Loc} {cells slots K Ks : Nat}  {q12 : Int64} {n14 n15 n16 n17 n18 n19 : Nat} {w24 : Nat} {st : ST} {ls : Array Slot} (F : LF p l s m c b L xs) (I : XI s.heap.size D E h s H) (hL : RA E σ ar h) (hR : RC E (lPr ar) τ ad fa h) (hS : va_S (xA s.heap.size) s.heap H locs) (hW : LW σ) (hC : CW τ)  (h14 : n14 ≤ 12) (h15 : n15 ≤ 10) (h16 : n16 ≤ 10) (h17 : n17 < 300) (h18 : n18 < 1000) (h19 : n19 < 44) (h24 : w24 < 5) (hc1 : cells + 100 ≤ K) (hc2 : slots + 1000 ≤ Ks) (hK1 : K ≤ 600086) (hK2 : Ks ≤ 7301442) (hl : lv_has ls 39 [(0, .ref b), (1, .ref (ad 0 0)), (2, .ref (ar 0)), (3, .ref (ar 1)), (4, .ref (ar 2)), (5, .ref (ar 3)), (6, .ref (ar 4)), (7, .ref (ar 5)), (8, .ref (ar 6)), (9, .ref (ar 8)), (10, .ref (ar 7)), (11, .ref (ar 9)), (12, .long q12), (14, .int (nI n14)), (15, .int (nI n15)), (16, .int (nI n16)), (17, .int (nI n17)), (18, .int (nI n18)), (19, .int (nI n19)), (24, .int (nI w24))]) (kk : lKK p l e s m below meth c b D E ar Q K Ks n18 n19 2560 st) (hG : fS516 σ τ q12 n14 n15 n16 n17 w24 = some st) : W p l e room_1 s m #[Value.ref b] below meth c H locs cells slots Q (F0 m 516 ls []) := by
  obtain ⟨hx, hb, hml, hown, hts, hX, hbl, hCa, hlst, hLL⟩ := id F
  have hbA : ¬ xA s.heap.size b := Nat.not_le.mpr hbl
  unfold fS516 at hG
  refine lv_iconst (v := (-1)) hx hb dL_law_516 (by decide) ?_
  refine lv_istore (lv' := [(26, .int (-1)), (0, .ref b), (1, .ref (ad 0 0)), (2, .ref (ar 0)), (3, .ref (ar 1)), (4, .ref (ar 2)), (5, .ref (ar 3)), (6, .ref (ar 4)), (7, .ref (ar 5)), (8, .ref (ar 6)), (9, .ref (ar 8)), (10, .ref (ar 7)), (11, .ref (ar 9)), (12, .long q12), (14, .int (nI n14)), (15, .int (nI n15)), (16, .int (nI n16)), (17, .int (nI n17)), (18, .int (nI n18)), (19, .int (nI n19)), (24, .int (nI w24))]) hx hb dL_law_517 hl (by decide) rfl (fun ls hl => ?_)
  refine lv_iconst (v := (nI 0)) hx hb dL_law_519 (by decide) ?_
  refine lv_istore (lv' := [(27, .int (nI 0)), (26, .int (-1)), (0, .ref b), (1, .ref (ad 0 0)), (2, .ref (ar 0)), (3, .ref (ar 1)), (4, .ref (ar 2)), (5, .ref (ar 3)), (6, .ref (ar 4)), (7, .ref (ar 5)), (8, .ref (ar 6)), (9, .ref (ar 8)), (10, .ref (ar 7)), (11, .ref (ar 9)), (12, .long q12), (14, .int (nI n14)), (15, .int (nI n15)), (16, .int (nI n16)), (17, .int (nI n17)), (18, .int (nI n18)), (19, .int (nI n19)), (24, .int (nI w24))]) hx hb dL_law_520 hl (by decide) rfl (fun ls hl => ?_)
  have L522 : ∀ (n522 : Nat) (k522 : Nat) (a522_26 : Int32), k522 + n522 = n14 → ((a522_26 = -1 ∨ ∃ j, j < n14 ∧ a522_26 = nI j)) → fS516_L522 σ τ q12 n14 n15 n16 n17 w24 n522 k522 a522_26 = some st → ∀ ls : Array Slot, lv_has ls 39 [(0, .ref b), (1, .ref (ad 0 0)), (2, .ref (ar 0)), (3, .ref (ar 1)), (4, .ref (ar 2)), (5, .ref (ar 3)), (6, .ref (ar 4)), (7, .ref (ar 5)), (8, .ref (ar 6)), (9, .ref (ar 8)), (10, .ref (ar 7)), (11, .ref (ar 9)), (12, .long q12), (14, .int (nI n14)), (15, .int (nI n15)), (16, .int (nI n16)), (17, .int (nI n17)), (18, .int (nI n18)), (19, .int (nI n19)), (24, .int (nI w24)), (26, .int a522_26), (27, .int (nI k522))] → W p l e room_1 s m #[Value.ref b] below meth c H locs cells slots Q (F0 m 522 ls []) := by
    intro n522
    induction n522 with
    | zero =>
      intro k522 a522_26 hkn i522_0 hG ls hl
      have hkN : k522 = n14 := by omega
      have hG : (lcall none (fL_tried3 τ (nI w24)) (fun x569 => (fS516_B593 σ τ q12 n14 n15 n16 n17 w24 a522_26 x569 (if 0 ≤ a522_26 then ((nI n17) - (nI (lK σ 0 (3 * (tn a522_26) + 1)))) else (-9))))) = some st := hG
      refine lv_iload hx hb dL_law_522 (lv_at hl 21 rfl) ?_
      refine lv_iload hx hb dL_law_524 (lv_at hl 13 rfl) ?_
      refine lv_icmp_ge (tgt := 564) hx hb dL_law_526 (by decide) (fun _ => ?_) (fun q => absurd (nI_le (Nat.le_of_eq hkN.symm) (by omega)) q)
      refine lv_aload_n hx hb dL_law_564 rfl (lv_at hl 1 rfl) ?_
      refine lv_iconst (v := (nI 3)) hx hb dL_law_565 (by decide) ?_
      refine lv_iload hx hb dL_law_566 (lv_at hl 19 rfl) ?_
      refine lv_iconst (v := (nI 0)) hx hb dL_law_568 (by decide) ?_
      cases e569 : (fL_tried3 τ (nI w24)) with
      | inl En => rw [e569] at hG; exact absurd (show (none : Option ST) = some st from hG) (fun z => nomatch z)
      | inr x569 =>
        rw [e569] at hG
        have hG : (fS516_B593 σ τ q12 n14 n15 n16 n17 w24 a522_26 x569 (if 0 ≤ a522_26 then ((nI n17) - (nI (lK σ 0 (3 * (tn a522_26) + 1)))) else (-9))) = some st := hG
        refine xcsB (As := [.ref (ad 0 0), .int (nI 3), .int (nI w24), .int (nI 0)]) (rest := []) ⟨hx, hb, hml, hown, hts⟩ (mL_tried3 l s.heap.size D E h hlst (lPr ar) τ ad fa hR hC (nI w24) (nI 0) ⟨_, e569⟩) (vx_cwSW 4 hts gL_law_L_tried rfl rfl rfl (by decide +kernel) ⟨Nat.le_of_ble_eq_true rfl, Nat.le_of_ble_eq_true rfl⟩) I hCa hS rfl hl.1 rfl (Nat.le_of_ble_eq_true rfl) dL_law_569 ⟨show cells + 3 ≤ 600086 by omega, show slots + 18 ≤ 7301442 by omega⟩ (fun v9 hw H locs q9 I hS => ?_)
        obtain ⟨y9, e9, q1, ad_569, fa_569, hR, hF, hC, h00_569⟩ := q9
        have e9 := Sum.inr.inj (e569.symm.trans e9)
        subst e9
        subst q1
        have hL := hL.keep hF
        try rw [← h00_569] at hl
        refine W.eq (g2 := F0 m 572 ls [.int x569.1]) rfl ?_
        refine lv_iload hx hb dL_law_572 (lv_at hl 20 rfl) ?_
        have B593 : ∀ (v593_0 : Int32), fS516_B593 σ τ q12 n14 n15 n16 n17 w24 a522_26 x569 v593_0 = some st → ∀ ls : Array Slot, lv_has ls 39 [(0, .ref b), (1, .ref (ad_569 0 0)), (2, .ref (ar 0)), (3, .ref (ar 1)), (4, .ref (ar 2)), (5, .ref (ar 3)), (6, .ref (ar 4)), (7, .ref (ar 5)), (8, .ref (ar 6)), (9, .ref (ar 8)), (10, .ref (ar 7)), (11, .ref (ar 9)), (12, .long q12), (14, .int (nI n14)), (15, .int (nI n15)), (16, .int (nI n16)), (17, .int (nI n17)), (18, .int (nI n18)), (19, .int (nI n19)), (26, .int a522_26)] → W p l e room_1 s m #[Value.ref b] below meth c H locs (cells + 3) (slots + 18) Q (F0 m 593 ls [.int v593_0, .int x569.1]) := by
          intro v593_0 hG ls hl
          unfold fS516_B593 at hG
          refine lv_icmp_eq (tgt := 598) hx hb dL_law_593 (by decide) (fun c_593 => ?_) (fun c_593 => ?_)
          · skip
            rw [if_pos c_593] at hG
            refine lv_iload hx hb dL_law_598 (lv_at hl 19 rfl) ?_
            refine lv_if_lt (tgt := 613) hx hb dL_law_600 (by decide) (fun c_600 => ?_) (fun c_600 => ?_)
            · skip
              rw [if_pos c_600] at hG
              refine lv_goto (tgt := 2560) hx hb dL_law_613 (by decide) ?_
              have hst := Option.some.inj (show some (σ, x569.2, q12, n14, n15, n16, n17) = some st from hG)
              subst hst
              exact W.widen (by omega) (by omega) (kk _ _ _ _ _ _ I hL hR hS hW hC (lv_sub hl [0, 1, 2, 3, 4, 5, 6, 7, 8, 9, 10, 11, 12, 13, 14, 15, 16, 17, 18] rfl))
            · skip
              rw [if_neg c_600] at hG
              obtain ⟨e_a522_26, l_a522_26⟩ := onat (x := a522_26) (n := n14) (by omega) (by assumption) (by first | assumption | exact i32_nlt.mpr (by assumption))
              refine lv_aload_n hx hb dL_law_603 rfl (lv_at hl 2 rfl) ?_
              refine lv_iconst (v := (nI 3)) hx hb dL_law_604 (by decide) ?_
              refine lv_iload hx hb dL_law_605 (lv_at hl 19 rfl) ?_
              refine xtop (y := .int (nI (tn a522_26))) (congrArg Value.int e_a522_26) ?_
              refine lv_imul hx hb dL_law_607 ?_
              refine xtop (y := .int (nI (3 * (tn a522_26)))) (congrArg Value.int (pk_mul _ _)) ?_
              refine lv_iconst (v := (nI 2)) hx hb dL_law_608 (by decide) ?_
              refine lv_iadd hx hb dL_law_609 ?_
              refine xtop (y := .int (nI (3 * (tn a522_26) + 2))) (congrArg Value.int (nI_add _ _)) ?_
              refine lv_iload hx hb dL_law_610 (lv_at hl 16 rfl) ?_
              refine xkS (x := n17) (i := (3 * (tn a522_26) + 2)) (n := 40) 0 hx hb I hS hL hR (by decide) (by omega) (by decide) dL_law_612 (fun H locs hw I hL hR hS => ?_)
              have hW : LW (lSK σ 0 (3 * (tn a522_26) + 2) n17) := hW.sK 0 (3 * (tn a522_26) + 2) n17 (by omega) (by intro z q; first | exact absurd z (by decide) | omega | (obtain ⟨i, hi⟩ := q; omega)) (by intro z q; first | exact absurd z (by decide) | omega | (obtain ⟨i, hi⟩ := q; omega)) (by intro z q; first | exact absurd z (by decide) | omega | (obtain ⟨i, hi⟩ := q; omega)) (by intro z q; first | exact absurd z (by decide) | omega | (obtain ⟨i, hi⟩ := q; omega)) (by intro z q; first | exact absurd z (by decide) | omega | (obtain ⟨i, hi⟩ := q; omega))
              refine lv_goto (tgt := 2560) hx hb dL_law_613 (by decide) ?_
              have hst := Option.some.inj (show some ((lSK σ 0 (3 * (tn a522_26) + 2) n17), x569.2, q12, n14, n15, n16, n17) = some st from hG)
              subst hst
              exact W.widen (by omega) (by omega) (kk _ _ _ _ _ _ I hL hR hS hW hC (lv_sub hl [0, 1, 2, 3, 4, 5, 6, 7, 8, 9, 10, 11, 12, 13, 14, 15, 16, 17, 18] rfl))
          · skip
            rw [if_neg c_593] at hG
            refine lv_iconst (v := (nI 0)) hx hb dL_law_596 (by decide) ?_
            exact absurd (show (none : Option ST) = some st from hG) (fun z => nomatch z)
        refine lv_if_ge (tgt := 582) hx hb dL_law_574 (by decide) (fun c_574 => ?_) (fun c_574 => ?_)
        · skip
          rw [if_pos c_574] at hG
          obtain ⟨e_a522_26, l_a522_26⟩ := onat (x := a522_26) (n := n14) (by omega) (by assumption) (by first | assumption | exact i32_nlt.mpr (by assumption))
          refine lv_iload hx hb dL_law_582 (lv_at hl 16 rfl) ?_
          refine lv_aload_n hx hb dL_law_584 rfl (lv_at hl 2 rfl) ?_
          refine lv_iconst (v := (nI 3)) hx hb dL_law_585 (by decide) ?_
          refine lv_iload hx hb dL_law_586 (lv_at hl 20 rfl) ?_
          refine xtop (y := .int (nI (tn a522_26))) (congrArg Value.int e_a522_26) ?_
          refine lv_imul hx hb dL_law_588 ?_
          refine xtop (y := .int (nI (3 * (tn a522_26)))) (congrArg Value.int (pk_mul _ _)) ?_
          refine lv_iconst (v := (nI 1)) hx hb dL_law_589 (by decide) ?_
          refine lv_iadd hx hb dL_law_590 ?_
          refine xtop (y := .int (nI (3 * (tn a522_26) + 1))) (congrArg Value.int (nI_add _ _)) ?_
          refine xiald (i := (3 * (tn a522_26) + 1)) (n := 40) hx hb I (hL.1 0 40 (by decide)) (by omega) (by decide) dL_law_591 ?_
          have g591 : lK σ 0 (3 * (tn a522_26) + 1) < 1073741824 := hW.2.2.2.2.2.1 0 (3 * (tn a522_26) + 1)
          refine lv_isub hx hb dL_law_592 ?_
          exact B593 ((nI n17) - (nI (lK σ 0 (3 * (tn a522_26) + 1)))) hG ls (lv_sub hl [0, 1, 2, 3, 4, 5, 6, 7, 8, 9, 10, 11, 12, 13, 14, 15, 16, 17, 18, 20] rfl)
        · skip
          rw [if_neg c_574] at hG
          refine lv_bipush (v := (-9)) hx hb dL_law_577 (by decide) ?_
          refine lv_goto (tgt := 593) hx hb dL_law_579 (by decide) ?_
          exact B593 (-9) hG ls (lv_sub hl [0, 1, 2, 3, 4, 5, 6, 7, 8, 9, 10, 11, 12, 13, 14, 15, 16, 17, 18, 20] rfl)
    | succ n522 ih522 =>
      intro k522 a522_26 hkn i522_0 hG ls hl
      have hk : k522 < n14 := by omega
      have hG : lseq ((if lK σ 0 (3 * k522) = w24 then (if lK σ 0 (3 * k522 + 2) = 9999 then (nI k522) else a522_26) else a522_26)) (fun q => fS516_L522 σ τ q12 n14 n15 n16 n17 w24 n522 (k522 + 1) q) = some st := hG
      refine lv_iload hx hb dL_law_522 (lv_at hl 21 rfl) ?_
      refine lv_iload hx hb dL_law_524 (lv_at hl 13 rfl) ?_
      refine lv_icmp_ge (tgt := 564) hx hb dL_law_526 (by decide) (fun q => absurd q (nI_ge hk (by omega))) (fun _ => ?_)
      refine lv_aload_n hx hb dL_law_529 rfl (lv_at hl 2 rfl) ?_
      refine lv_iconst (v := (nI 3)) hx hb dL_law_530 (by decide) ?_
      refine lv_iload hx hb dL_law_531 (lv_at hl 21 rfl) ?_
      refine lv_imul hx hb dL_law_533 ?_
      refine xtop (y := .int (nI (3 * k522))) (congrArg Value.int (pk_mul _ _)) ?_
      refine xiald (i := (3 * k522)) (n := 40) hx hb I (hL.1 0 40 (by decide)) (by omega) (by decide) dL_law_534 ?_
      have g534 : lK σ 0 (3 * k522) < 1073741824 := hW.2.2.2.2.2.1 0 (3 * k522)
      have b534 : lK σ 0 (3 * k522) < 5 := hW.1 k522
      refine lv_iload hx hb dL_law_535 (lv_at hl 19 rfl) ?_
      refine lv_icmp_ne (tgt := 558) hx hb dL_law_537 (by decide) (fun c_537 => ?_) (fun c_537 => ?_)
      · skip
        have c_537 : ¬ lK σ 0 (3 * k522) = w24 := fun q => c_537 ((nI_eq (a := (lK σ 0 (3 * k522))) (b := w24) (by omega) (by omega)).mpr q)
        rw [if_neg c_537] at hG
        refine lv_iinc (v := (nI (k522 + 1))) (lv' := [(27, .int (nI (k522 + 1))), (0, .ref b), (1, .ref (ad 0 0)), (2, .ref (ar 0)), (3, .ref (ar 1)), (4, .ref (ar 2)), (5, .ref (ar 3)), (6, .ref (ar 4)), (7, .ref (ar 5)), (8, .ref (ar 6)), (9, .ref (ar 8)), (10, .ref (ar 7)), (11, .ref (ar 9)), (12, .long q12), (14, .int (nI n14)), (15, .int (nI n15)), (16, .int (nI n16)), (17, .int (nI n17)), (18, .int (nI n18)), (19, .int (nI n19)), (24, .int (nI w24)), (26, .int a522_26)]) hx hb dL_law_558 hl (k := 21) rfl (nI_succ k522).symm (by decide) rfl (fun ls hl => ?_)
        refine lv_goto (tgt := 522) hx hb dL_law_561 (by decide) ?_
        exact ih522 (k522 + 1) a522_26 (by first | omega | (simp only [lSI_K]; omega)) (by first | exact Or.inl rfl | exact Or.inr ⟨_, by assumption, rfl⟩ | assumption) hG ls (lv_sub hl [1, 2, 3, 4, 5, 6, 7, 8, 9, 10, 11, 12, 13, 14, 15, 16, 17, 18, 19, 20, 21, 0] rfl)
      · skip
        have c_537 : lK σ 0 (3 * k522) = w24 := (nI_eq (a := (lK σ 0 (3 * k522))) (b := w24) (by omega) (by omega)).mp c_537
        rw [if_pos c_537] at hG
        refine lv_aload_n hx hb dL_law_540 rfl (lv_at hl 2 rfl) ?_
        refine lv_iconst (v := (nI 3)) hx hb dL_law_541 (by decide) ?_
        refine lv_iload hx hb dL_law_542 (lv_at hl 21 rfl) ?_
        refine lv_imul hx hb dL_law_544 ?_
        refine xtop (y := .int (nI (3 * k522))) (congrArg Value.int (pk_mul _ _)) ?_
        refine lv_iconst (v := (nI 2)) hx hb dL_law_545 (by decide) ?_
        refine lv_iadd hx hb dL_law_546 ?_
        refine xtop (y := .int (nI (3 * k522 + 2))) (congrArg Value.int (nI_add _ _)) ?_
        refine xiald (i := (3 * k522 + 2)) (n := 40) hx hb I (hL.1 0 40 (by decide)) (by omega) (by decide) dL_law_547 ?_
        have g547 : lK σ 0 (3 * k522 + 2) < 1073741824 := hW.2.2.2.2.2.1 0 (3 * k522 + 2)
        refine lv_sipush (v := (nI 9999)) hx hb dL_law_548 (by decide) ?_
        refine lv_icmp_ne (tgt := 558) hx hb dL_law_551 (by decide) (fun c_551 => ?_) (fun c_551 => ?_)
        · skip
          have c_551 : ¬ lK σ 0 (3 * k522 + 2) = 9999 := fun q => c_551 ((nI_eq (a := (lK σ 0 (3 * k522 + 2))) (b := 9999) (by omega) (by omega)).mpr q)
          rw [if_neg c_551] at hG
          refine lv_iinc (v := (nI (k522 + 1))) (lv' := [(27, .int (nI (k522 + 1))), (0, .ref b), (1, .ref (ad 0 0)), (2, .ref (ar 0)), (3, .ref (ar 1)), (4, .ref (ar 2)), (5, .ref (ar 3)), (6, .ref (ar 4)), (7, .ref (ar 5)), (8, .ref (ar 6)), (9, .ref (ar 8)), (10, .ref (ar 7)), (11, .ref (ar 9)), (12, .long q12), (14, .int (nI n14)), (15, .int (nI n15)), (16, .int (nI n16)), (17, .int (nI n17)), (18, .int (nI n18)), (19, .int (nI n19)), (24, .int (nI w24)), (26, .int a522_26)]) hx hb dL_law_558 hl (k := 21) rfl (nI_succ k522).symm (by decide) rfl (fun ls hl => ?_)
          refine lv_goto (tgt := 522) hx hb dL_law_561 (by decide) ?_
          exact ih522 (k522 + 1) a522_26 (by first | omega | (simp only [lSI_K]; omega)) (by first | exact Or.inl rfl | exact Or.inr ⟨_, by assumption, rfl⟩ | assumption) hG ls (lv_sub hl [1, 2, 3, 4, 5, 6, 7, 8, 9, 10, 11, 12, 13, 14, 15, 16, 17, 18, 19, 20, 21, 0] rfl)
        · skip
          have c_551 : lK σ 0 (3 * k522 + 2) = 9999 := (nI_eq (a := (lK σ 0 (3 * k522 + 2))) (b := 9999) (by omega) (by omega)).mp c_551
          rw [if_pos c_551] at hG
          refine lv_iload hx hb dL_law_554 (lv_at hl 21 rfl) ?_
          refine lv_istore (lv' := [(26, .int (nI k522)), (0, .ref b), (1, .ref (ad 0 0)), (2, .ref (ar 0)), (3, .ref (ar 1)), (4, .ref (ar 2)), (5, .ref (ar 3)), (6, .ref (ar 4)), (7, .ref (ar 5)), (8, .ref (ar 6)), (9, .ref (ar 8)), (10, .ref (ar 7)), (11, .ref (ar 9)), (12, .long q12), (14, .int (nI n14)), (15, .int (nI n15)), (16, .int (nI n16)), (17, .int (nI n17)), (18, .int (nI n18)), (19, .int (nI n19)), (24, .int (nI w24)), (27, .int (nI k522))]) hx hb dL_law_556 hl (by decide) rfl (fun ls hl => ?_)
          refine lv_iinc (v := (nI (k522 + 1))) (lv' := [(27, .int (nI (k522 + 1))), (26, .int (nI k522)), (0, .ref b), (1, .ref (ad 0 0)), (2, .ref (ar 0)), (3, .ref (ar 1)), (4, .ref (ar 2)), (5, .ref (ar 3)), (6, .ref (ar 4)), (7, .ref (ar 5)), (8, .ref (ar 6)), (9, .ref (ar 8)), (10, .ref (ar 7)), (11, .ref (ar 9)), (12, .long q12), (14, .int (nI n14)), (15, .int (nI n15)), (16, .int (nI n16)), (17, .int (nI n17)), (18, .int (nI n18)), (19, .int (nI n19)), (24, .int (nI w24))]) hx hb dL_law_558 hl (k := 21) rfl (nI_succ k522).symm (by decide) rfl (fun ls hl => ?_)
          refine lv_goto (tgt := 522) hx hb dL_law_561 (by decide) ?_
          exact ih522 (k522 + 1) (nI k522) (by first | omega | (simp only [lSI_K]; omega)) (by first | exact Or.inl rfl | exact Or.inr ⟨_, by assumption, rfl⟩ | assumption) hG ls (lv_sub hl [2, 3, 4, 5, 6, 7, 8, 9, 10, 11, 12, 13, 14, 15, 16, 17, 18, 19, 20, 21, 1, 0] rfl)
  exact L522 n14 0 (-1) (by omega) (by first | exact Or.inl rfl | exact Or.inr ⟨_, by assumption, rfl⟩ | assumption) hG ls (lv_sub hl [2, 3, 4, 5, 6, 7, 8, 9, 10, 11, 12, 13, 14, 15, 16, 17, 18, 19, 20, 21, 1, 0] rfl)

def fS629_B846 (σ : LT) (τ : CT) (q12 : Int64) (n14 : Nat) (n15 : Nat) (n16 : Nat) (n17 : Nat) (x1 : Int32) (y1 : Int32) (w24 : Nat) (v665_0 : Nat) (v700_0 : Int32) (a705_26 : Nat) (v837_0 : Nat) (w846_16 : Nat) : Option ST := (if cN τ 4 ≤ cN τ 3 then (lcall none (fX7_claim τ (nI w24) (nI (lowN (x1 >>> ((nI 12) &&& 31)) 4)) (nI a705_26) (nI (lowN (y1 >>> ((nI 9) &&& 31)) v665_0)) v700_0) (fun x864 => (if x864.1 = (nI n15) then (lcall none (fX7_ofClaim x864.2 (nI n15) (nI 1)) (fun x876 => (if x876 = (lN (lK (lSK (lSK (lSK (lSK (lSK σ 3 (6 * n15) w24) 3 (6 * n15 + 1) (lowN (x1 >>> ((nI 12) &&& 31)) 4)) 3 (6 * n15 + 2) a705_26) 3 (6 * n15 + 3) (lowN (y1 >>> ((nI 9) &&& 31)) v665_0)) 3 (6 * n15 + 4) v837_0) 3 (6 * n15 + 4))) then (some ((lSK (lSK (lSK (lSK (lSK σ 3 (6 * n15) w24) 3 (6 * n15 + 1) (lowN (x1 >>> ((nI 12) &&& 31)) 4)) 3 (6 * n15 + 2) a705_26) 3 (6 * n15 + 3) (lowN (y1 >>> ((nI 9) &&& 31)) v665_0)) 3 (6 * n15 + 4) v837_0), x864.2, q12, n14, n15 + 1, w846_16, n17)) else none))) else none))) else none)
def fS629_B837 (σ : LT) (τ : CT) (q12 : Int64) (n14 : Nat) (n15 : Nat) (n16 : Nat) (n17 : Nat) (x1 : Int32) (y1 : Int32) (w24 : Nat) (v665_0 : Nat) (v700_0 : Int32) (a705_26 : Nat) (v837_0 : Nat) : Option ST := (fS629_B846 σ τ q12 n14 n15 n16 n17 x1 y1 w24 v665_0 v700_0 a705_26 v837_0 (if 0 ≤ v700_0 then n16 else n16 + 1))
def fS629_S705 (σ : LT) (τ : CT) (q12 : Int64) (n14 : Nat) (n15 : Nat) (n16 : Nat) (n17 : Nat) (x1 : Int32) (y1 : Int32) (w24 : Nat) (v665_0 : Nat) (v700_0 : Int32) (k705 : Nat) (a705_26 : Nat) : (Nat) := (if v700_0 < 0 then a705_26 else (if (nI (lK σ 3 (6 * k705 + 4))) = v700_0 then lK σ 3 (6 * k705 + 2) else a705_26))
def fS629_L705 (σ : LT) (τ : CT) (q12 : Int64) (n14 : Nat) (n15 : Nat) (n16 : Nat) (n17 : Nat) (x1 : Int32) (y1 : Int32) (w24 : Nat) (v665_0 : Nat) (v700_0 : Int32) : Nat → Nat → Nat → Option ST
  | 0, k705, a705_26 => (if a705_26 / 100 < lF σ then (some (σ, τ, q12, n14, n15, n16, n17)) else (fS629_B837 σ τ q12 n14 n15 n16 n17 x1 y1 w24 v665_0 v700_0 a705_26 (if 0 ≤ v700_0 then tn v700_0 else n16)))
  | n705 + 1, k705, a705_26 => lseq (fS629_S705 σ τ q12 n14 n15 n16 n17 x1 y1 w24 v665_0 v700_0 k705 a705_26) (fun q => fS629_L705 σ τ q12 n14 n15 n16 n17 x1 y1 w24 v665_0 v700_0 n705 (k705 + 1) q)
def fS629_B700 (σ : LT) (τ : CT) (q12 : Int64) (n14 : Nat) (n15 : Nat) (n16 : Nat) (n17 : Nat) (x1 : Int32) (y1 : Int32) (w24 : Nat) (v665_0 : Nat) (v700_0 : Int32) : Option ST := (fS629_L705 σ τ q12 n14 n15 n16 n17 x1 y1 w24 v665_0 v700_0 n15 0 (lowN y1 (n17 + 1)))
def fS629_B665 (σ : LT) (τ : CT) (q12 : Int64) (n14 : Nat) (n15 : Nat) (n16 : Nat) (n17 : Nat) (x1 : Int32) (y1 : Int32) (w24 : Nat) (v665_0 : Nat) : Option ST := (fS629_B700 σ τ q12 n14 n15 n16 n17 x1 y1 w24 v665_0 (if n16 = 0 then (-1) else (if lowN (y1 >>> ((nI 5) &&& 31)) 2 = 0 then (-1) else (nI (lowN (y1 >>> ((nI 6) &&& 31)) n16)))))
def fS629 (σ : LT) (τ : CT) (q12 : Int64) (n14 : Nat) (n15 : Nat) (n16 : Nat) (n17 : Nat) (x1 : Int32) (y1 : Int32) (w24 : Nat) : Option ST := (fS629_B665 σ τ q12 n14 n15 n16 n17 x1 y1 w24 (if lowN (y1 >>> ((nI 8) &&& 31)) 2 = 0 then 1000 else 6000000))
set_option maxHeartbeats 4000000 in
set_option maxRecDepth 100000 in
theorem sS629 {p : Program} {l : Launch} {e : Env} {s : State} {m : MethodId} {below : List Frame} {meth : Method} {c : Code} {b L : Nat} {xs : Nat → Int32} {Q : State → Prop} {D : va_G} {E : Nat → ClassId} {σ : LT} {τ : CT} {ad : Nat → Nat → Nat} {fa : Nat → Nat → Option Nat} {ar : Nat → Nat} {h : XW} {H : Heap} {locs : List Loc} {cells slots K Ks : Nat}  {q12 : Int64} {n14 n15 n16 n17 n18 n19 : Nat} {x1 : Int32} {y1 : Int32} {w24 : Nat} {st : ST} {ls : Array Slot} (F : LF p l s m c b L xs) (I : XI s.heap.size D E h s H) (hL : RA E σ ar h) (hR : RC E (lPr ar) τ ad fa h) (hS : va_S (xA s.heap.size) s.heap H locs) (hW : LW σ) (hC : CW τ)  (h14 : n14 ≤ 12) (h15 : n15 ≤ 10) (h16 : n16 ≤ 10) (h17 : n17 < 300) (h18 : n18 < 1000) (h19 : n19 < 44) (h24 : w24 < 5) (h15b : n15 < 10) (hc1 : cells + 100 ≤ K) (hc2 : slots + 1000 ≤ Ks) (hK1 : K ≤ 600086) (hK2 : Ks ≤ 7301442) (hl : lv_has ls 39 [(0, .ref b), (1, .ref (ad 0 0)), (2, .ref (ar 0)), (3, .ref (ar 1)), (4, .ref (ar 2)), (5, .ref (ar 3)), (6, .ref (ar 4)), (7, .ref (ar 5)), (8, .ref (ar 6)), (9, .ref (ar 8)), (10, .ref (ar 7)), (11, .ref (ar 9)), (12, .long q12), (14, .int (nI n14)), (15, .int (nI n15)), (16, .int (nI n16)), (17, .int (nI n17)), (18, .int (nI n18)), (19, .int (nI n19)), (20, .int x1), (21, .int y1), (24, .int (nI w24))]) (kk : lKK p l e s m below meth c b D E ar Q K Ks n18 n19 2560 st) (hG : fS629 σ τ q12 n14 n15 n16 n17 x1 y1 w24 = some st) : W p l e room_1 s m #[Value.ref b] below meth c H locs cells slots Q (F0 m 629 ls []) := by
  obtain ⟨hx, hb, hml, hown, hts, hX, hbl, hCa, hlst, hLL⟩ := id F
  have hbA : ¬ xA s.heap.size b := Nat.not_le.mpr hbl
  unfold fS629 at hG
  refine lv_iload hx hb dL_law_629 (lv_at hl 20 rfl) ?_
  refine lv_iload hx hb dL_law_631 (lv_at hl 16 rfl) ?_
  refine lv_iconst (v := (nI 1)) hx hb dL_law_633 (by decide) ?_
  refine lv_iadd hx hb dL_law_634 ?_
  refine xtop (y := .int (nI (n17 + 1))) (congrArg Value.int (nI_add _ _)) ?_
  refine xcsR (As := [.int y1, .int (nI (n17 + 1))]) (rest := []) (v := some (.int (nI (lowN y1 (n17 + 1))))) ⟨hx, hb, hml, hown, hts⟩ (mL_low l s.heap.size D E h y1 (n17 + 1) (by first | assumption | omega) (by first | assumption | omega)) (va_cwS 2 hts gL_law_L_low rfl rfl rfl (by decide +kernel) ⟨Nat.le_of_ble_eq_true rfl, Nat.le_of_ble_eq_true rfl⟩) I rfl hl.1 rfl (Nat.le_of_ble_eq_true rfl) dL_law_635 ⟨show cells + 0 ≤ 600086 by omega, show slots + 0 ≤ 7301442 by omega⟩ ?_
  refine W.eq (g2 := F0 m 638 ls [.int (nI (lowN y1 (n17 + 1)))]) rfl ?_
  have l635 : lowN y1 (n17 + 1) < (n17 + 1) := lowN_lt _ (by omega)
  refine lv_istore (lv' := [(26, .int (nI (lowN y1 (n17 + 1)))), (0, .ref b), (1, .ref (ad 0 0)), (2, .ref (ar 0)), (3, .ref (ar 1)), (4, .ref (ar 2)), (5, .ref (ar 3)), (6, .ref (ar 4)), (7, .ref (ar 5)), (8, .ref (ar 6)), (9, .ref (ar 8)), (10, .ref (ar 7)), (11, .ref (ar 9)), (12, .long q12), (14, .int (nI n14)), (15, .int (nI n15)), (16, .int (nI n16)), (17, .int (nI n17)), (18, .int (nI n18)), (19, .int (nI n19)), (20, .int x1), (21, .int y1), (24, .int (nI w24))]) hx hb dL_law_638 hl (by decide) rfl (fun ls hl => ?_)
  refine lv_iload hx hb dL_law_640 (lv_at hl 21 rfl) ?_
  refine lv_bipush (v := (nI 9)) hx hb dL_law_642 (by decide) ?_
  refine lv_ishr hx hb dL_law_644 ?_
  refine lv_iload hx hb dL_law_645 (lv_at hl 21 rfl) ?_
  refine lv_bipush (v := (nI 8)) hx hb dL_law_647 (by decide) ?_
  refine lv_ishr hx hb dL_law_649 ?_
  refine lv_iconst (v := (nI 2)) hx hb dL_law_650 (by decide) ?_
  refine xcsR (As := [.int (y1 >>> ((nI 8) &&& 31)), .int (nI 2)]) (rest := [.int (y1 >>> ((nI 9) &&& 31))]) (v := some (.int (nI (lowN (y1 >>> ((nI 8) &&& 31)) 2)))) ⟨hx, hb, hml, hown, hts⟩ (mL_low l s.heap.size D E h (y1 >>> ((nI 8) &&& 31)) 2 (by first | assumption | omega) (by first | assumption | omega)) (va_cwS 2 hts gL_law_L_low rfl rfl rfl (by decide +kernel) ⟨Nat.le_of_ble_eq_true rfl, Nat.le_of_ble_eq_true rfl⟩) I rfl hl.1 rfl (Nat.le_of_ble_eq_true rfl) dL_law_651 ⟨show cells + 0 ≤ 600086 by omega, show slots + 0 ≤ 7301442 by omega⟩ ?_
  refine W.eq (g2 := F0 m 654 ls [.int (nI (lowN (y1 >>> ((nI 8) &&& 31)) 2)), .int (y1 >>> ((nI 9) &&& 31))]) rfl ?_
  have l651 : lowN (y1 >>> ((nI 8) &&& 31)) 2 < 2 := lowN_lt _ (by omega)
  have B665 : ∀ (v665_0 : Nat), (0 < v665_0) → (v665_0 ≤ 6000000) → fS629_B665 σ τ q12 n14 n15 n16 n17 x1 y1 w24 v665_0 = some st → ∀ ls : Array Slot, lv_has ls 39 [(0, .ref b), (1, .ref (ad 0 0)), (2, .ref (ar 0)), (3, .ref (ar 1)), (4, .ref (ar 2)), (5, .ref (ar 3)), (6, .ref (ar 4)), (7, .ref (ar 5)), (8, .ref (ar 6)), (9, .ref (ar 8)), (10, .ref (ar 7)), (11, .ref (ar 9)), (12, .long q12), (14, .int (nI n14)), (15, .int (nI n15)), (16, .int (nI n16)), (17, .int (nI n17)), (18, .int (nI n18)), (19, .int (nI n19)), (20, .int x1), (21, .int y1), (24, .int (nI w24)), (26, .int (nI (lowN y1 (n17 + 1))))] → W p l e room_1 s m #[Value.ref b] below meth c H locs cells slots Q (F0 m 665 ls [.int (nI v665_0), .int (y1 >>> ((nI 9) &&& 31))]) := by
    intro v665_0 j665_0 j665_1 hG ls hl
    unfold fS629_B665 at hG
    refine xcsR (As := [.int (y1 >>> ((nI 9) &&& 31)), .int (nI v665_0)]) (rest := []) (v := some (.int (nI (lowN (y1 >>> ((nI 9) &&& 31)) v665_0)))) ⟨hx, hb, hml, hown, hts⟩ (mL_low l s.heap.size D E h (y1 >>> ((nI 9) &&& 31)) v665_0 (by first | assumption | omega) (by first | assumption | omega)) (va_cwS 2 hts gL_law_L_low rfl rfl rfl (by decide +kernel) ⟨Nat.le_of_ble_eq_true rfl, Nat.le_of_ble_eq_true rfl⟩) I rfl hl.1 rfl (Nat.le_of_ble_eq_true rfl) dL_law_665 ⟨show cells + 0 ≤ 600086 by omega, show slots + 0 ≤ 7301442 by omega⟩ ?_
    refine W.eq (g2 := F0 m 668 ls [.int (nI (lowN (y1 >>> ((nI 9) &&& 31)) v665_0))]) rfl ?_
    have l665 : lowN (y1 >>> ((nI 9) &&& 31)) v665_0 < v665_0 := lowN_lt _ (by omega)
    refine lv_istore (lv' := [(27, .int (nI (lowN (y1 >>> ((nI 9) &&& 31)) v665_0))), (0, .ref b), (1, .ref (ad 0 0)), (2, .ref (ar 0)), (3, .ref (ar 1)), (4, .ref (ar 2)), (5, .ref (ar 3)), (6, .ref (ar 4)), (7, .ref (ar 5)), (8, .ref (ar 6)), (9, .ref (ar 8)), (10, .ref (ar 7)), (11, .ref (ar 9)), (12, .long q12), (14, .int (nI n14)), (15, .int (nI n15)), (16, .int (nI n16)), (17, .int (nI n17)), (18, .int (nI n18)), (19, .int (nI n19)), (20, .int x1), (21, .int y1), (24, .int (nI w24)), (26, .int (nI (lowN y1 (n17 + 1))))]) hx hb dL_law_668 hl (by decide) rfl (fun ls hl => ?_)
    refine lv_iload hx hb dL_law_670 (lv_at hl 16 rfl) ?_
    have B700 : ∀ (v700_0 : Int32), ((v700_0 = -1 ∨ ∃ j, j < n16 ∧ v700_0 = nI j)) → fS629_B700 σ τ q12 n14 n15 n16 n17 x1 y1 w24 v665_0 v700_0 = some st → ∀ ls : Array Slot, lv_has ls 39 [(0, .ref b), (1, .ref (ad 0 0)), (2, .ref (ar 0)), (3, .ref (ar 1)), (4, .ref (ar 2)), (5, .ref (ar 3)), (6, .ref (ar 4)), (7, .ref (ar 5)), (8, .ref (ar 6)), (9, .ref (ar 8)), (10, .ref (ar 7)), (11, .ref (ar 9)), (12, .long q12), (14, .int (nI n14)), (15, .int (nI n15)), (16, .int (nI n16)), (17, .int (nI n17)), (18, .int (nI n18)), (19, .int (nI n19)), (20, .int x1), (24, .int (nI w24)), (26, .int (nI (lowN y1 (n17 + 1)))), (27, .int (nI (lowN (y1 >>> ((nI 9) &&& 31)) v665_0)))] → W p l e room_1 s m #[Value.ref b] below meth c H locs cells slots Q (F0 m 700 ls [.int v700_0]) := by
      intro v700_0 j700_0 hG ls hl
      unfold fS629_B700 at hG
      refine lv_istore (lv' := [(28, .int v700_0), (0, .ref b), (1, .ref (ad 0 0)), (2, .ref (ar 0)), (3, .ref (ar 1)), (4, .ref (ar 2)), (5, .ref (ar 3)), (6, .ref (ar 4)), (7, .ref (ar 5)), (8, .ref (ar 6)), (9, .ref (ar 8)), (10, .ref (ar 7)), (11, .ref (ar 9)), (12, .long q12), (14, .int (nI n14)), (15, .int (nI n15)), (16, .int (nI n16)), (17, .int (nI n17)), (18, .int (nI n18)), (19, .int (nI n19)), (20, .int x1), (24, .int (nI w24)), (26, .int (nI (lowN y1 (n17 + 1)))), (27, .int (nI (lowN (y1 >>> ((nI 9) &&& 31)) v665_0)))]) hx hb dL_law_700 hl (by decide) rfl (fun ls hl => ?_)
      refine lv_iconst (v := (nI 0)) hx hb dL_law_702 (by decide) ?_
      refine lv_istore (lv' := [(29, .int (nI 0)), (28, .int v700_0), (0, .ref b), (1, .ref (ad 0 0)), (2, .ref (ar 0)), (3, .ref (ar 1)), (4, .ref (ar 2)), (5, .ref (ar 3)), (6, .ref (ar 4)), (7, .ref (ar 5)), (8, .ref (ar 6)), (9, .ref (ar 8)), (10, .ref (ar 7)), (11, .ref (ar 9)), (12, .long q12), (14, .int (nI n14)), (15, .int (nI n15)), (16, .int (nI n16)), (17, .int (nI n17)), (18, .int (nI n18)), (19, .int (nI n19)), (20, .int x1), (24, .int (nI w24)), (26, .int (nI (lowN y1 (n17 + 1)))), (27, .int (nI (lowN (y1 >>> ((nI 9) &&& 31)) v665_0)))]) hx hb dL_law_703 hl (by decide) rfl (fun ls hl => ?_)
      have L705 : ∀ (n705 : Nat) (k705 : Nat) (a705_26 : Nat), k705 + n705 = n15 → (a705_26 < 300) → fS629_L705 σ τ q12 n14 n15 n16 n17 x1 y1 w24 v665_0 v700_0 n705 k705 a705_26 = some st → ∀ ls : Array Slot, lv_has ls 39 [(0, .ref b), (1, .ref (ad 0 0)), (2, .ref (ar 0)), (3, .ref (ar 1)), (4, .ref (ar 2)), (5, .ref (ar 3)), (6, .ref (ar 4)), (7, .ref (ar 5)), (8, .ref (ar 6)), (9, .ref (ar 8)), (10, .ref (ar 7)), (11, .ref (ar 9)), (12, .long q12), (14, .int (nI n14)), (15, .int (nI n15)), (16, .int (nI n16)), (17, .int (nI n17)), (18, .int (nI n18)), (19, .int (nI n19)), (20, .int x1), (24, .int (nI w24)), (26, .int (nI a705_26)), (27, .int (nI (lowN (y1 >>> ((nI 9) &&& 31)) v665_0))), (28, .int v700_0), (29, .int (nI k705))] → W p l e room_1 s m #[Value.ref b] below meth c H locs cells slots Q (F0 m 705 ls []) := by
        intro n705
        induction n705 with
        | zero =>
          intro k705 a705_26 hkn i705_0 hG ls hl
          have hkN : k705 = n15 := by omega
          have hG : (if a705_26 / 100 < lF σ then (some (σ, τ, q12, n14, n15, n16, n17)) else (fS629_B837 σ τ q12 n14 n15 n16 n17 x1 y1 w24 v665_0 v700_0 a705_26 (if 0 ≤ v700_0 then tn v700_0 else n16))) = some st := hG
          refine lv_iload hx hb dL_law_705 (lv_at hl 24 rfl) ?_
          refine lv_iload hx hb dL_law_707 (lv_at hl 14 rfl) ?_
          refine lv_icmp_ge (tgt := 750) hx hb dL_law_709 (by decide) (fun _ => ?_) (fun q => absurd (nI_le (Nat.le_of_eq hkN.symm) (by omega)) q)
          refine lv_iload hx hb dL_law_750 (lv_at hl 21 rfl) ?_
          refine lv_bipush (v := (nI 100)) hx hb dL_law_752 (by decide) ?_
          refine lv_idiv hx hb dL_law_754 (by decide) ?_
          refine xtop (y := .int (nI (a705_26 / 100))) (congrArg Value.int (pk_div (by omega) (by decide) (by decide))) ?_
          refine lv_aload hx hb dL_law_755 (lv_at hl 10 rfl) ?_
          refine lv_bipush (v := (nI 12)) hx hb dL_law_757 (by decide) ?_
          refine xiald (i := 12) (n := 16) hx hb I (hL.2.1 7 16 (by decide)) (by omega) (by decide) dL_law_759 ?_
          have f759 : lI σ 7 12 = nI (lF σ) ∧ lF σ ≤ 3 := hW.2.2.2.2.1
          refine xtop (y := .int (nI (lF σ))) (congrArg Value.int f759.1) ?_
          have b759 := f759.2
          refine lv_icmp_lt (tgt := 899) hx hb dL_law_760 (by decide) (fun c_760 => ?_) (fun c_760 => ?_)
          · skip
            have c_760 : a705_26 / 100 < lF σ := (nI_ltI (a := (a705_26 / 100)) (b := (lF σ)) (by omega) (by omega)).mp c_760
            rw [if_pos c_760] at hG
            refine lv_goto (tgt := 2560) hx hb dL_law_899 (by decide) ?_
            have hst := Option.some.inj (show some (σ, τ, q12, n14, n15, n16, n17) = some st from hG)
            subst hst
            exact W.widen (by omega) (by omega) (kk _ _ _ _ _ _ I hL hR hS hW hC (lv_sub hl [0, 1, 2, 3, 4, 5, 6, 7, 8, 9, 10, 11, 12, 13, 14, 15, 16, 17, 18] rfl))
          · skip
            have c_760 : ¬ a705_26 / 100 < lF σ := fun q => c_760 ((nI_ltI (a := (a705_26 / 100)) (b := (lF σ)) (by omega) (by omega)).mpr q)
            rw [if_neg c_760] at hG
            refine lv_aload hx hb dL_law_763 (lv_at hl 5 rfl) ?_
            refine lv_bipush (v := (nI 6)) hx hb dL_law_765 (by decide) ?_
            refine lv_iload hx hb dL_law_767 (lv_at hl 14 rfl) ?_
            refine lv_imul hx hb dL_law_769 ?_
            refine xtop (y := .int (nI (6 * n15))) (congrArg Value.int (pk_mul _ _)) ?_
            refine lv_iload hx hb dL_law_770 (lv_at hl 20 rfl) ?_
            refine xkS (x := w24) (i := (6 * n15)) (n := 64) 3 hx hb I hS hL hR (by decide) (by omega) (by decide) dL_law_772 (fun H locs hw I hL hR hS => ?_)
            have hW : LW (lSK σ 3 (6 * n15) w24) := hW.sK 3 (6 * n15) w24 (by omega) (by intro z q; first | exact absurd z (by decide) | omega | (obtain ⟨i, hi⟩ := q; omega)) (by intro z q; first | exact absurd z (by decide) | omega | (obtain ⟨i, hi⟩ := q; omega)) (by intro z q; first | exact absurd z (by decide) | omega | (obtain ⟨i, hi⟩ := q; omega)) (by intro z q; first | exact absurd z (by decide) | omega | (obtain ⟨i, hi⟩ := q; omega)) (by intro z q; first | exact absurd z (by decide) | omega | (obtain ⟨i, hi⟩ := q; omega))
            refine lv_aload hx hb dL_law_773 (lv_at hl 5 rfl) ?_
            refine lv_bipush (v := (nI 6)) hx hb dL_law_775 (by decide) ?_
            refine lv_iload hx hb dL_law_777 (lv_at hl 14 rfl) ?_
            refine lv_imul hx hb dL_law_779 ?_
            refine xtop (y := .int (nI (6 * n15))) (congrArg Value.int (pk_mul _ _)) ?_
            refine lv_iconst (v := (nI 1)) hx hb dL_law_780 (by decide) ?_
            refine lv_iadd hx hb dL_law_781 ?_
            refine xtop (y := .int (nI (6 * n15 + 1))) (congrArg Value.int (nI_add _ _)) ?_
            refine lv_iload hx hb dL_law_782 (lv_at hl 19 rfl) ?_
            refine lv_bipush (v := (nI 12)) hx hb dL_law_784 (by decide) ?_
            refine lv_ishr hx hb dL_law_786 ?_
            refine lv_iconst (v := (nI 4)) hx hb dL_law_787 (by decide) ?_
            refine xcsR (As := [.int (x1 >>> ((nI 12) &&& 31)), .int (nI 4)]) (rest := [.int (nI (6 * n15 + 1)), .ref (ar 3)]) (v := some (.int (nI (lowN (x1 >>> ((nI 12) &&& 31)) 4)))) ⟨hx, hb, hml, hown, hts⟩ (mL_low l s.heap.size D E hw (x1 >>> ((nI 12) &&& 31)) 4 (by first | assumption | omega) (by first | assumption | omega)) (va_cwS 2 hts gL_law_L_low rfl rfl rfl (by decide +kernel) ⟨Nat.le_of_ble_eq_true rfl, Nat.le_of_ble_eq_true rfl⟩) I rfl hl.1 rfl (Nat.le_of_ble_eq_true rfl) dL_law_788 ⟨show cells + 0 ≤ 600086 by omega, show slots + 0 ≤ 7301442 by omega⟩ ?_
            refine W.eq (g2 := F0 m 791 ls [.int (nI (lowN (x1 >>> ((nI 12) &&& 31)) 4)), .int (nI (6 * n15 + 1)), .ref (ar 3)]) rfl ?_
            have l788 : lowN (x1 >>> ((nI 12) &&& 31)) 4 < 4 := lowN_lt _ (by omega)
            refine xkS (x := (lowN (x1 >>> ((nI 12) &&& 31)) 4)) (i := (6 * n15 + 1)) (n := 64) 3 hx hb I hS hL hR (by decide) (by omega) (by decide) dL_law_791 (fun H locs hw I hL hR hS => ?_)
            have hW : LW (lSK (lSK σ 3 (6 * n15) w24) 3 (6 * n15 + 1) (lowN (x1 >>> ((nI 12) &&& 31)) 4)) := hW.sK 3 (6 * n15 + 1) (lowN (x1 >>> ((nI 12) &&& 31)) 4) (by omega) (by intro z q; first | exact absurd z (by decide) | omega | (obtain ⟨i, hi⟩ := q; omega)) (by intro z q; first | exact absurd z (by decide) | omega | (obtain ⟨i, hi⟩ := q; omega)) (by intro z q; first | exact absurd z (by decide) | omega | (obtain ⟨i, hi⟩ := q; omega)) (by intro z q; first | exact absurd z (by decide) | omega | (obtain ⟨i, hi⟩ := q; omega)) (by intro z q; first | exact absurd z (by decide) | omega | (obtain ⟨i, hi⟩ := q; omega))
            refine lv_aload hx hb dL_law_792 (lv_at hl 5 rfl) ?_
            refine lv_bipush (v := (nI 6)) hx hb dL_law_794 (by decide) ?_
            refine lv_iload hx hb dL_law_796 (lv_at hl 14 rfl) ?_
            refine lv_imul hx hb dL_law_798 ?_
            refine xtop (y := .int (nI (6 * n15))) (congrArg Value.int (pk_mul _ _)) ?_
            refine lv_iconst (v := (nI 2)) hx hb dL_law_799 (by decide) ?_
            refine lv_iadd hx hb dL_law_800 ?_
            refine xtop (y := .int (nI (6 * n15 + 2))) (congrArg Value.int (nI_add _ _)) ?_
            refine lv_iload hx hb dL_law_801 (lv_at hl 21 rfl) ?_
            refine xkS (x := a705_26) (i := (6 * n15 + 2)) (n := 64) 3 hx hb I hS hL hR (by decide) (by omega) (by decide) dL_law_803 (fun H locs hw I hL hR hS => ?_)
            have hW : LW (lSK (lSK (lSK σ 3 (6 * n15) w24) 3 (6 * n15 + 1) (lowN (x1 >>> ((nI 12) &&& 31)) 4)) 3 (6 * n15 + 2) a705_26) := hW.sK 3 (6 * n15 + 2) a705_26 (by omega) (by intro z q; first | exact absurd z (by decide) | omega | (obtain ⟨i, hi⟩ := q; omega)) (by intro z q; first | exact absurd z (by decide) | omega | (obtain ⟨i, hi⟩ := q; omega)) (by intro z q; first | exact absurd z (by decide) | omega | (obtain ⟨i, hi⟩ := q; omega)) (by intro z q; first | exact absurd z (by decide) | omega | (obtain ⟨i, hi⟩ := q; omega)) (by intro z q; first | exact absurd z (by decide) | omega | (obtain ⟨i, hi⟩ := q; omega))
            refine lv_aload hx hb dL_law_804 (lv_at hl 5 rfl) ?_
            refine lv_bipush (v := (nI 6)) hx hb dL_law_806 (by decide) ?_
            refine lv_iload hx hb dL_law_808 (lv_at hl 14 rfl) ?_
            refine lv_imul hx hb dL_law_810 ?_
            refine xtop (y := .int (nI (6 * n15))) (congrArg Value.int (pk_mul _ _)) ?_
            refine lv_iconst (v := (nI 3)) hx hb dL_law_811 (by decide) ?_
            refine lv_iadd hx hb dL_law_812 ?_
            refine xtop (y := .int (nI (6 * n15 + 3))) (congrArg Value.int (nI_add _ _)) ?_
            refine lv_iload hx hb dL_law_813 (lv_at hl 22 rfl) ?_
            refine xkS (x := (lowN (y1 >>> ((nI 9) &&& 31)) v665_0)) (i := (6 * n15 + 3)) (n := 64) 3 hx hb I hS hL hR (by decide) (by omega) (by decide) dL_law_815 (fun H locs hw I hL hR hS => ?_)
            have hW : LW (lSK (lSK (lSK (lSK σ 3 (6 * n15) w24) 3 (6 * n15 + 1) (lowN (x1 >>> ((nI 12) &&& 31)) 4)) 3 (6 * n15 + 2) a705_26) 3 (6 * n15 + 3) (lowN (y1 >>> ((nI 9) &&& 31)) v665_0)) := hW.sK 3 (6 * n15 + 3) (lowN (y1 >>> ((nI 9) &&& 31)) v665_0) (by omega) (by intro z q; first | exact absurd z (by decide) | omega | (obtain ⟨i, hi⟩ := q; omega)) (by intro z q; first | exact absurd z (by decide) | omega | (obtain ⟨i, hi⟩ := q; omega)) (by intro z q; first | exact absurd z (by decide) | omega | (obtain ⟨i, hi⟩ := q; omega)) (by intro z q; first | exact absurd z (by decide) | omega | (obtain ⟨i, hi⟩ := q; omega)) (by intro z q; first | exact absurd z (by decide) | omega | (obtain ⟨i, hi⟩ := q; omega))
            refine lv_aload hx hb dL_law_816 (lv_at hl 5 rfl) ?_
            refine lv_bipush (v := (nI 6)) hx hb dL_law_818 (by decide) ?_
            refine lv_iload hx hb dL_law_820 (lv_at hl 14 rfl) ?_
            refine lv_imul hx hb dL_law_822 ?_
            refine xtop (y := .int (nI (6 * n15))) (congrArg Value.int (pk_mul _ _)) ?_
            refine lv_iconst (v := (nI 4)) hx hb dL_law_823 (by decide) ?_
            refine lv_iadd hx hb dL_law_824 ?_
            refine xtop (y := .int (nI (6 * n15 + 4))) (congrArg Value.int (nI_add _ _)) ?_
            refine lv_iload hx hb dL_law_825 (lv_at hl 23 rfl) ?_
            have B837 : ∀ (v837_0 : Nat), (v837_0 < 1000000) → fS629_B837 σ τ q12 n14 n15 n16 n17 x1 y1 w24 v665_0 v700_0 a705_26 v837_0 = some st → ∀ ls : Array Slot, lv_has ls 39 [(0, .ref b), (1, .ref (ad 0 0)), (2, .ref (ar 0)), (3, .ref (ar 1)), (4, .ref (ar 2)), (5, .ref (ar 3)), (6, .ref (ar 4)), (7, .ref (ar 5)), (8, .ref (ar 6)), (9, .ref (ar 8)), (10, .ref (ar 7)), (11, .ref (ar 9)), (12, .long q12), (14, .int (nI n14)), (15, .int (nI n15)), (16, .int (nI n16)), (17, .int (nI n17)), (18, .int (nI n18)), (19, .int (nI n19)), (20, .int x1), (24, .int (nI w24)), (26, .int (nI a705_26)), (27, .int (nI (lowN (y1 >>> ((nI 9) &&& 31)) v665_0))), (28, .int v700_0)] → W p l e room_1 s m #[Value.ref b] below meth c H locs cells slots Q (F0 m 837 ls [.int (nI v837_0), .int (nI (6 * n15 + 4)), .ref (ar 3)]) := by
              intro v837_0 j837_0 hG ls hl
              unfold fS629_B837 at hG
              refine xkS (x := v837_0) (i := (6 * n15 + 4)) (n := 64) 3 hx hb I hS hL hR (by decide) (by omega) (by decide) dL_law_837 (fun H locs hw I hL hR hS => ?_)
              have hW : LW (lSK (lSK (lSK (lSK (lSK σ 3 (6 * n15) w24) 3 (6 * n15 + 1) (lowN (x1 >>> ((nI 12) &&& 31)) 4)) 3 (6 * n15 + 2) a705_26) 3 (6 * n15 + 3) (lowN (y1 >>> ((nI 9) &&& 31)) v665_0)) 3 (6 * n15 + 4) v837_0) := hW.sK 3 (6 * n15 + 4) v837_0 (by omega) (by intro z q; first | exact absurd z (by decide) | omega | (obtain ⟨i, hi⟩ := q; omega)) (by intro z q; first | exact absurd z (by decide) | omega | (obtain ⟨i, hi⟩ := q; omega)) (by intro z q; first | exact absurd z (by decide) | omega | (obtain ⟨i, hi⟩ := q; omega)) (by intro z q; first | exact absurd z (by decide) | omega | (obtain ⟨i, hi⟩ := q; omega)) (by intro z q; first | exact absurd z (by decide) | omega | (obtain ⟨i, hi⟩ := q; omega))
              refine lv_iload hx hb dL_law_838 (lv_at hl 23 rfl) ?_
              have B846 : ∀ (w846_16 : Nat), (w846_16 ≤ 11) → fS629_B846 σ τ q12 n14 n15 n16 n17 x1 y1 w24 v665_0 v700_0 a705_26 v837_0 w846_16 = some st → ∀ ls : Array Slot, lv_has ls 39 [(0, .ref b), (1, .ref (ad 0 0)), (2, .ref (ar 0)), (3, .ref (ar 1)), (4, .ref (ar 2)), (5, .ref (ar 3)), (6, .ref (ar 4)), (7, .ref (ar 5)), (8, .ref (ar 6)), (9, .ref (ar 8)), (10, .ref (ar 7)), (11, .ref (ar 9)), (12, .long q12), (14, .int (nI n14)), (15, .int (nI n15)), (16, .int (nI w846_16)), (17, .int (nI n17)), (18, .int (nI n18)), (19, .int (nI n19)), (20, .int x1), (24, .int (nI w24)), (26, .int (nI a705_26)), (27, .int (nI (lowN (y1 >>> ((nI 9) &&& 31)) v665_0))), (28, .int v700_0)] → W p l e room_1 s m #[Value.ref b] below meth c H locs cells slots Q (F0 m 846 ls []) := by
                intro w846_16 j846_0 hG ls hl
                unfold fS629_B846 at hG
                refine lv_aload_n hx hb dL_law_846 rfl (lv_at hl 1 rfl) ?_
                refine lv_iload hx hb dL_law_847 (lv_at hl 20 rfl) ?_
                refine lv_iload hx hb dL_law_849 (lv_at hl 19 rfl) ?_
                refine lv_bipush (v := (nI 12)) hx hb dL_law_851 (by decide) ?_
                refine lv_ishr hx hb dL_law_853 ?_
                refine lv_iconst (v := (nI 4)) hx hb dL_law_854 (by decide) ?_
                refine xcsR (As := [.int (x1 >>> ((nI 12) &&& 31)), .int (nI 4)]) (rest := [.int (nI w24), .ref (ad 0 0)]) (v := some (.int (nI (lowN (x1 >>> ((nI 12) &&& 31)) 4)))) ⟨hx, hb, hml, hown, hts⟩ (mL_low l s.heap.size D E hw (x1 >>> ((nI 12) &&& 31)) 4 (by first | assumption | omega) (by first | assumption | omega)) (va_cwS 2 hts gL_law_L_low rfl rfl rfl (by decide +kernel) ⟨Nat.le_of_ble_eq_true rfl, Nat.le_of_ble_eq_true rfl⟩) I rfl hl.1 rfl (Nat.le_of_ble_eq_true rfl) dL_law_855 ⟨show cells + 0 ≤ 600086 by omega, show slots + 0 ≤ 7301442 by omega⟩ ?_
                refine W.eq (g2 := F0 m 858 ls [.int (nI (lowN (x1 >>> ((nI 12) &&& 31)) 4)), .int (nI w24), .ref (ad 0 0)]) rfl ?_
                have l855 : lowN (x1 >>> ((nI 12) &&& 31)) 4 < 4 := lowN_lt _ (by omega)
                refine lv_iload hx hb dL_law_858 (lv_at hl 21 rfl) ?_
                refine lv_iload hx hb dL_law_860 (lv_at hl 22 rfl) ?_
                refine lv_iload hx hb dL_law_862 (lv_at hl 23 rfl) ?_
                by_cases v864 : cN τ 4 ≤ cN τ 3
                case neg => rw [if_neg v864] at hG; exact absurd (show (none : Option ST) = some st from hG) (fun z => nomatch z)
                rw [if_pos v864] at hG
                cases e864 : (fX7_claim τ (nI w24) (nI (lowN (x1 >>> ((nI 12) &&& 31)) 4)) (nI a705_26) (nI (lowN (y1 >>> ((nI 9) &&& 31)) v665_0)) v700_0) with
                | inl En => rw [e864] at hG; exact absurd (show (none : Option ST) = some st from hG) (fun z => nomatch z)
                | inr x864 =>
                  rw [e864] at hG
                  have hG : (if x864.1 = (nI n15) then (lcall none (fX7_ofClaim x864.2 (nI n15) (nI 1)) (fun x876 => (if x876 = (lN (lK (lSK (lSK (lSK (lSK (lSK σ 3 (6 * n15) w24) 3 (6 * n15 + 1) (lowN (x1 >>> ((nI 12) &&& 31)) 4)) 3 (6 * n15 + 2) a705_26) 3 (6 * n15 + 3) (lowN (y1 >>> ((nI 9) &&& 31)) v665_0)) 3 (6 * n15 + 4) v837_0) 3 (6 * n15 + 4))) then (some ((lSK (lSK (lSK (lSK (lSK σ 3 (6 * n15) w24) 3 (6 * n15 + 1) (lowN (x1 >>> ((nI 12) &&& 31)) 4)) 3 (6 * n15 + 2) a705_26) 3 (6 * n15 + 3) (lowN (y1 >>> ((nI 9) &&& 31)) v665_0)) 3 (6 * n15 + 4) v837_0), x864.2, q12, n14, n15 + 1, w846_16, n17)) else none))) else none) = some st := hG
                  refine xcvN (As := [.int (nI w24), .int (nI (lowN (x1 >>> ((nI 12) &&& 31)) 4)), .int (nI a705_26), .int (nI (lowN (y1 >>> ((nI 9) &&& 31)) v665_0)), .int v700_0]) (rest := []) ⟨hx, hb, hml, hown, hts⟩ (mX7_claim l s.heap.size D E hw hlst (lPr ar) τ ad fa hR hC (nI w24) (nI (lowN (x1 >>> ((nI 12) &&& 31)) 4)) (nI a705_26) (nI (lowN (y1 >>> ((nI 9) &&& 31)) v665_0)) v700_0 v864) (cwV 5 hts gL_law_X7_claim rfl rfl rfl (by decide +kernel) ⟨Nat.le_of_ble_eq_true rfl, Nat.le_of_ble_eq_true rfl⟩) I hS hR.f0 rfl rfl hl.1 rfl (Nat.le_of_ble_eq_true rfl) dL_law_864 ⟨show cells + 8 ≤ 600086 by omega, show slots + 50 ≤ 7301442 by omega⟩ (fun En q => by rw [e864] at q; cases q) (fun v9 hw H locs q9 I hS => ?_)
                  obtain ⟨y9, e9, ad_864, fa_864, q1, hR, hF, hC, h00_864⟩ := q9
                  have e9 := Sum.inr.inj (e864.symm.trans e9)
                  subst e9
                  subst q1
                  have hL := hL.keep hF
                  try rw [← h00_864] at hl
                  refine W.eq (g2 := F0 m 867 ls [.int x864.1]) rfl ?_
                  refine lv_iload hx hb dL_law_867 (lv_at hl 14 rfl) ?_
                  refine lv_icmp_ne (tgt := 894) hx hb dL_law_869 (by decide) (fun c_869 => ?_) (fun c_869 => ?_)
                  · skip
                    rw [if_neg c_869] at hG
                    refine lv_iconst (v := (nI 0)) hx hb dL_law_894 (by decide) ?_
                    exact absurd (show (none : Option ST) = some st from hG) (fun z => nomatch z)
                  · skip
                    rw [if_pos c_869] at hG
                    refine lv_aload_n hx hb dL_law_872 rfl (lv_at hl 1 rfl) ?_
                    refine lv_iload hx hb dL_law_873 (lv_at hl 14 rfl) ?_
                    refine lv_iconst (v := (nI 1)) hx hb dL_law_875 (by decide) ?_
                    cases e876 : (fX7_ofClaim x864.2 (nI n15) (nI 1)) with
                    | inl En => rw [e876] at hG; exact absurd (show (none : Option ST) = some st from hG) (fun z => nomatch z)
                    | inr x876 =>
                      rw [e876] at hG
                      have hG : (if x876 = (lN (lK (lSK (lSK (lSK (lSK (lSK σ 3 (6 * n15) w24) 3 (6 * n15 + 1) (lowN (x1 >>> ((nI 12) &&& 31)) 4)) 3 (6 * n15 + 2) a705_26) 3 (6 * n15 + 3) (lowN (y1 >>> ((nI 9) &&& 31)) v665_0)) 3 (6 * n15 + 4) v837_0) 3 (6 * n15 + 4))) then (some ((lSK (lSK (lSK (lSK (lSK σ 3 (6 * n15) w24) 3 (6 * n15 + 1) (lowN (x1 >>> ((nI 12) &&& 31)) 4)) 3 (6 * n15 + 2) a705_26) 3 (6 * n15 + 3) (lowN (y1 >>> ((nI 9) &&& 31)) v665_0)) 3 (6 * n15 + 4) v837_0), x864.2, q12, n14, n15 + 1, w846_16, n17)) else none) = some st := hG
                      refine xcvN (As := [.int (nI n15), .int (nI 1)]) (rest := []) ⟨hx, hb, hml, hown, hts⟩ (mX7_ofClaim l s.heap.size D E hw hlst (lPr ar) x864.2 ad_864 fa_864 hR hC (nI n15) (nI 1)) (cwV 2 hts gL_law_X7_ofClaim rfl rfl rfl (by decide +kernel) ⟨Nat.le_of_ble_eq_true rfl, Nat.le_of_ble_eq_true rfl⟩) I hS hR.f0 rfl rfl hl.1 rfl (Nat.le_of_ble_eq_true rfl) dL_law_876 ⟨show cells + 8 + 2 ≤ 600086 by omega, show slots + 50 + 12 ≤ 7301442 by omega⟩ (fun En q => by rw [e876] at q; cases q) (fun v9 hw9 H locs q9 I hS => ?_)
                      obtain ⟨y9, e9, q1, q2⟩ := q9
                      have e9 := Sum.inr.inj (e876.symm.trans e9)
                      subst e9
                      subst q1
                      rw [q2] at I
                      refine W.eq (g2 := F0 m 879 ls [.long x876]) rfl ?_
                      refine lv_aload hx hb dL_law_879 (lv_at hl 5 rfl) ?_
                      refine lv_bipush (v := (nI 6)) hx hb dL_law_881 (by decide) ?_
                      refine lv_iload hx hb dL_law_883 (lv_at hl 14 rfl) ?_
                      refine lv_imul hx hb dL_law_885 ?_
                      refine xtop (y := .int (nI (6 * n15))) (congrArg Value.int (pk_mul _ _)) ?_
                      refine lv_iconst (v := (nI 4)) hx hb dL_law_886 (by decide) ?_
                      refine lv_iadd hx hb dL_law_887 ?_
                      refine xtop (y := .int (nI (6 * n15 + 4))) (congrArg Value.int (nI_add _ _)) ?_
                      refine xiald (i := (6 * n15 + 4)) (n := 64) hx hb I (hL.1 3 64 (by decide)) (by omega) (by decide) dL_law_888 ?_
                      have g888 : lK (lSK (lSK (lSK (lSK (lSK σ 3 (6 * n15) w24) 3 (6 * n15 + 1) (lowN (x1 >>> ((nI 12) &&& 31)) 4)) 3 (6 * n15 + 2) a705_26) 3 (6 * n15 + 3) (lowN (y1 >>> ((nI 9) &&& 31)) v665_0)) 3 (6 * n15 + 4) v837_0) 3 (6 * n15 + 4) < 1073741824 := hW.2.2.2.2.2.1 3 (6 * n15 + 4)
                      refine lv_i2l (v := (lN (lK (lSK (lSK (lSK (lSK (lSK σ 3 (6 * n15) w24) 3 (6 * n15 + 1) (lowN (x1 >>> ((nI 12) &&& 31)) 4)) 3 (6 * n15 + 2) a705_26) 3 (6 * n15 + 3) (lowN (y1 >>> ((nI 9) &&& 31)) v665_0)) 3 (6 * n15 + 4) v837_0) 3 (6 * n15 + 4)))) hx hb dL_law_889 (nI_l (by omega)) ?_
                      refine xl_eq (tgt := 896) hx hb dL_law_890 dL_law_891 (by decide) (fun c_890 => ?_) (fun c_890 => ?_)
                      · skip
                        rw [if_pos c_890] at hG
                        refine lv_iinc (v := (nI (n15 + 1))) (lv' := [(15, .int (nI (n15 + 1))), (0, .ref b), (1, .ref (ad_864 0 0)), (2, .ref (ar 0)), (3, .ref (ar 1)), (4, .ref (ar 2)), (5, .ref (ar 3)), (6, .ref (ar 4)), (7, .ref (ar 5)), (8, .ref (ar 6)), (9, .ref (ar 8)), (10, .ref (ar 7)), (11, .ref (ar 9)), (12, .long q12), (14, .int (nI n14)), (16, .int (nI w846_16)), (17, .int (nI n17)), (18, .int (nI n18)), (19, .int (nI n19)), (20, .int x1), (24, .int (nI w24)), (26, .int (nI a705_26)), (27, .int (nI (lowN (y1 >>> ((nI 9) &&& 31)) v665_0))), (28, .int v700_0)]) hx hb dL_law_896 hl (k := 14) rfl (nI_succ n15).symm (by decide) rfl (fun ls hl => ?_)
                        refine lv_goto (tgt := 2560) hx hb dL_law_899 (by decide) ?_
                        have hst := Option.some.inj (show some ((lSK (lSK (lSK (lSK (lSK σ 3 (6 * n15) w24) 3 (6 * n15 + 1) (lowN (x1 >>> ((nI 12) &&& 31)) 4)) 3 (6 * n15 + 2) a705_26) 3 (6 * n15 + 3) (lowN (y1 >>> ((nI 9) &&& 31)) v665_0)) 3 (6 * n15 + 4) v837_0), x864.2, q12, n14, n15 + 1, w846_16, n17) = some st from hG)
                        subst hst
                        exact W.widen (by omega) (by omega) (kk _ _ _ _ _ _ I hL hR hS hW hC (lv_sub hl [1, 2, 3, 4, 5, 6, 7, 8, 9, 10, 11, 12, 13, 14, 0, 15, 16, 17, 18] rfl))
                      · skip
                        rw [if_neg c_890] at hG
                        refine lv_iconst (v := (nI 0)) hx hb dL_law_894 (by decide) ?_
                        exact absurd (show (none : Option ST) = some st from hG) (fun z => nomatch z)
              refine lv_if_ge (tgt := 846) hx hb dL_law_840 (by decide) (fun c_840 => ?_) (fun c_840 => ?_)
              · skip
                rw [if_pos c_840] at hG
                exact B846 n16 (by first | assumption | omega) hG ls (lv_sub hl [0, 1, 2, 3, 4, 5, 6, 7, 8, 9, 10, 11, 12, 13, 14, 15, 16, 17, 18, 19, 20, 21, 22, 23] rfl)
              · skip
                rw [if_neg c_840] at hG
                refine lv_iinc (v := (nI (n16 + 1))) (lv' := [(16, .int (nI (n16 + 1))), (0, .ref b), (1, .ref (ad 0 0)), (2, .ref (ar 0)), (3, .ref (ar 1)), (4, .ref (ar 2)), (5, .ref (ar 3)), (6, .ref (ar 4)), (7, .ref (ar 5)), (8, .ref (ar 6)), (9, .ref (ar 8)), (10, .ref (ar 7)), (11, .ref (ar 9)), (12, .long q12), (14, .int (nI n14)), (15, .int (nI n15)), (17, .int (nI n17)), (18, .int (nI n18)), (19, .int (nI n19)), (20, .int x1), (24, .int (nI w24)), (26, .int (nI a705_26)), (27, .int (nI (lowN (y1 >>> ((nI 9) &&& 31)) v665_0))), (28, .int v700_0)]) hx hb dL_law_843 hl (k := 15) rfl (nI_succ n16).symm (by decide) rfl (fun ls hl => ?_)
                exact B846 (n16 + 1) (by first | assumption | omega) hG ls (lv_sub hl [1, 2, 3, 4, 5, 6, 7, 8, 9, 10, 11, 12, 13, 14, 15, 0, 16, 17, 18, 19, 20, 21, 22, 23] rfl)
            refine lv_if_ge (tgt := 835) hx hb dL_law_827 (by decide) (fun c_827 => ?_) (fun c_827 => ?_)
            · skip
              rw [if_pos c_827] at hG
              obtain ⟨e_v700_0, l_v700_0⟩ := onat (x := v700_0) (n := n16) (by omega) (by assumption) (by first | assumption | exact i32_nlt.mpr (by assumption))
              refine lv_iload hx hb dL_law_835 (lv_at hl 23 rfl) ?_
              refine xtop (y := .int (nI (tn v700_0))) (congrArg Value.int e_v700_0) ?_
              exact B837 (tn v700_0) (by first | assumption | omega) hG ls (lv_sub hl [0, 1, 2, 3, 4, 5, 6, 7, 8, 9, 10, 11, 12, 13, 14, 15, 16, 17, 18, 19, 20, 21, 22, 23] rfl)
            · skip
              rw [if_neg c_827] at hG
              refine lv_iload hx hb dL_law_830 (lv_at hl 15 rfl) ?_
              refine lv_goto (tgt := 837) hx hb dL_law_832 (by decide) ?_
              exact B837 n16 (by first | assumption | omega) hG ls (lv_sub hl [0, 1, 2, 3, 4, 5, 6, 7, 8, 9, 10, 11, 12, 13, 14, 15, 16, 17, 18, 19, 20, 21, 22, 23] rfl)
        | succ n705 ih705 =>
          intro k705 a705_26 hkn i705_0 hG ls hl
          have hk : k705 < n15 := by omega
          have hG : lseq ((if v700_0 < 0 then a705_26 else (if (nI (lK σ 3 (6 * k705 + 4))) = v700_0 then lK σ 3 (6 * k705 + 2) else a705_26))) (fun q => fS629_L705 σ τ q12 n14 n15 n16 n17 x1 y1 w24 v665_0 v700_0 n705 (k705 + 1) q) = some st := hG
          refine lv_iload hx hb dL_law_705 (lv_at hl 24 rfl) ?_
          refine lv_iload hx hb dL_law_707 (lv_at hl 14 rfl) ?_
          refine lv_icmp_ge (tgt := 750) hx hb dL_law_709 (by decide) (fun q => absurd q (nI_ge hk (by omega))) (fun _ => ?_)
          refine lv_iload hx hb dL_law_712 (lv_at hl 23 rfl) ?_
          refine lv_if_lt (tgt := 744) hx hb dL_law_714 (by decide) (fun c_714 => ?_) (fun c_714 => ?_)
          · skip
            rw [if_pos c_714] at hG
            refine lv_iinc (v := (nI (k705 + 1))) (lv' := [(29, .int (nI (k705 + 1))), (0, .ref b), (1, .ref (ad 0 0)), (2, .ref (ar 0)), (3, .ref (ar 1)), (4, .ref (ar 2)), (5, .ref (ar 3)), (6, .ref (ar 4)), (7, .ref (ar 5)), (8, .ref (ar 6)), (9, .ref (ar 8)), (10, .ref (ar 7)), (11, .ref (ar 9)), (12, .long q12), (14, .int (nI n14)), (15, .int (nI n15)), (16, .int (nI n16)), (17, .int (nI n17)), (18, .int (nI n18)), (19, .int (nI n19)), (20, .int x1), (24, .int (nI w24)), (26, .int (nI a705_26)), (27, .int (nI (lowN (y1 >>> ((nI 9) &&& 31)) v665_0))), (28, .int v700_0)]) hx hb dL_law_744 hl (k := 24) rfl (nI_succ k705).symm (by decide) rfl (fun ls hl => ?_)
            refine lv_goto (tgt := 705) hx hb dL_law_747 (by decide) ?_
            exact ih705 (k705 + 1) a705_26 (by first | omega | (simp only [lSI_K]; omega)) (by first | assumption | omega) hG ls (lv_sub hl [1, 2, 3, 4, 5, 6, 7, 8, 9, 10, 11, 12, 13, 14, 15, 16, 17, 18, 19, 20, 21, 22, 23, 24, 0] rfl)
          · skip
            rw [if_neg c_714] at hG
            refine lv_aload hx hb dL_law_717 (lv_at hl 5 rfl) ?_
            refine lv_bipush (v := (nI 6)) hx hb dL_law_719 (by decide) ?_
            refine lv_iload hx hb dL_law_721 (lv_at hl 24 rfl) ?_
            refine lv_imul hx hb dL_law_723 ?_
            refine xtop (y := .int (nI (6 * k705))) (congrArg Value.int (pk_mul _ _)) ?_
            refine lv_iconst (v := (nI 4)) hx hb dL_law_724 (by decide) ?_
            refine lv_iadd hx hb dL_law_725 ?_
            refine xtop (y := .int (nI (6 * k705 + 4))) (congrArg Value.int (nI_add _ _)) ?_
            refine xiald (i := (6 * k705 + 4)) (n := 64) hx hb I (hL.1 3 64 (by decide)) (by omega) (by decide) dL_law_726 ?_
            have g726 : lK σ 3 (6 * k705 + 4) < 1073741824 := hW.2.2.2.2.2.1 3 (6 * k705 + 4)
            refine lv_iload hx hb dL_law_727 (lv_at hl 23 rfl) ?_
            refine lv_icmp_ne (tgt := 744) hx hb dL_law_729 (by decide) (fun c_729 => ?_) (fun c_729 => ?_)
            · skip
              rw [if_neg c_729] at hG
              refine lv_iinc (v := (nI (k705 + 1))) (lv' := [(29, .int (nI (k705 + 1))), (0, .ref b), (1, .ref (ad 0 0)), (2, .ref (ar 0)), (3, .ref (ar 1)), (4, .ref (ar 2)), (5, .ref (ar 3)), (6, .ref (ar 4)), (7, .ref (ar 5)), (8, .ref (ar 6)), (9, .ref (ar 8)), (10, .ref (ar 7)), (11, .ref (ar 9)), (12, .long q12), (14, .int (nI n14)), (15, .int (nI n15)), (16, .int (nI n16)), (17, .int (nI n17)), (18, .int (nI n18)), (19, .int (nI n19)), (20, .int x1), (24, .int (nI w24)), (26, .int (nI a705_26)), (27, .int (nI (lowN (y1 >>> ((nI 9) &&& 31)) v665_0))), (28, .int v700_0)]) hx hb dL_law_744 hl (k := 24) rfl (nI_succ k705).symm (by decide) rfl (fun ls hl => ?_)
              refine lv_goto (tgt := 705) hx hb dL_law_747 (by decide) ?_
              exact ih705 (k705 + 1) a705_26 (by first | omega | (simp only [lSI_K]; omega)) (by first | assumption | omega) hG ls (lv_sub hl [1, 2, 3, 4, 5, 6, 7, 8, 9, 10, 11, 12, 13, 14, 15, 16, 17, 18, 19, 20, 21, 22, 23, 24, 0] rfl)
            · skip
              rw [if_pos c_729] at hG
              refine lv_aload hx hb dL_law_732 (lv_at hl 5 rfl) ?_
              refine lv_bipush (v := (nI 6)) hx hb dL_law_734 (by decide) ?_
              refine lv_iload hx hb dL_law_736 (lv_at hl 24 rfl) ?_
              refine lv_imul hx hb dL_law_738 ?_
              refine xtop (y := .int (nI (6 * k705))) (congrArg Value.int (pk_mul _ _)) ?_
              refine lv_iconst (v := (nI 2)) hx hb dL_law_739 (by decide) ?_
              refine lv_iadd hx hb dL_law_740 ?_
              refine xtop (y := .int (nI (6 * k705 + 2))) (congrArg Value.int (nI_add _ _)) ?_
              refine xiald (i := (6 * k705 + 2)) (n := 64) hx hb I (hL.1 3 64 (by decide)) (by omega) (by decide) dL_law_741 ?_
              have g741 : lK σ 3 (6 * k705 + 2) < 1073741824 := hW.2.2.2.2.2.1 3 (6 * k705 + 2)
              have b741 : lK σ 3 (6 * k705 + 2) < 300 := hW.2.2.2.1 k705
              refine lv_istore (lv' := [(26, .int (nI (lK σ 3 (6 * k705 + 2)))), (0, .ref b), (1, .ref (ad 0 0)), (2, .ref (ar 0)), (3, .ref (ar 1)), (4, .ref (ar 2)), (5, .ref (ar 3)), (6, .ref (ar 4)), (7, .ref (ar 5)), (8, .ref (ar 6)), (9, .ref (ar 8)), (10, .ref (ar 7)), (11, .ref (ar 9)), (12, .long q12), (14, .int (nI n14)), (15, .int (nI n15)), (16, .int (nI n16)), (17, .int (nI n17)), (18, .int (nI n18)), (19, .int (nI n19)), (20, .int x1), (24, .int (nI w24)), (27, .int (nI (lowN (y1 >>> ((nI 9) &&& 31)) v665_0))), (28, .int v700_0), (29, .int (nI k705))]) hx hb dL_law_742 hl (by decide) rfl (fun ls hl => ?_)
              refine lv_iinc (v := (nI (k705 + 1))) (lv' := [(29, .int (nI (k705 + 1))), (26, .int (nI (lK σ 3 (6 * k705 + 2)))), (0, .ref b), (1, .ref (ad 0 0)), (2, .ref (ar 0)), (3, .ref (ar 1)), (4, .ref (ar 2)), (5, .ref (ar 3)), (6, .ref (ar 4)), (7, .ref (ar 5)), (8, .ref (ar 6)), (9, .ref (ar 8)), (10, .ref (ar 7)), (11, .ref (ar 9)), (12, .long q12), (14, .int (nI n14)), (15, .int (nI n15)), (16, .int (nI n16)), (17, .int (nI n17)), (18, .int (nI n18)), (19, .int (nI n19)), (20, .int x1), (24, .int (nI w24)), (27, .int (nI (lowN (y1 >>> ((nI 9) &&& 31)) v665_0))), (28, .int v700_0)]) hx hb dL_law_744 hl (k := 24) rfl (nI_succ k705).symm (by decide) rfl (fun ls hl => ?_)
              refine lv_goto (tgt := 705) hx hb dL_law_747 (by decide) ?_
              exact ih705 (k705 + 1) (lK σ 3 (6 * k705 + 2)) (by first | omega | (simp only [lSI_K]; omega)) (by first | assumption | omega) hG ls (lv_sub hl [2, 3, 4, 5, 6, 7, 8, 9, 10, 11, 12, 13, 14, 15, 16, 17, 18, 19, 20, 21, 22, 1, 23, 24, 0] rfl)
      exact L705 n15 0 (lowN y1 (n17 + 1)) (by omega) (by first | assumption | omega) hG ls (lv_sub hl [2, 3, 4, 5, 6, 7, 8, 9, 10, 11, 12, 13, 14, 15, 16, 17, 18, 19, 20, 21, 22, 23, 24, 1, 0] rfl)
    refine lv_if_eq (tgt := 686) hx hb dL_law_672 (by decide) (fun c_672 => ?_) (fun c_672 => ?_)
    · skip
      have c_672 : n16 = 0 := (nI_eq (a := n16) (b := 0) (by omega) (by omega)).mp c_672
      rw [if_pos c_672] at hG
      refine lv_iconst (v := (-1)) hx hb dL_law_686 (by decide) ?_
      refine lv_goto (tgt := 700) hx hb dL_law_687 (by decide) ?_
      exact B700 (-1) (by first | exact Or.inl rfl | exact Or.inr ⟨_, by assumption, rfl⟩ | assumption) hG ls (lv_sub hl [1, 2, 3, 4, 5, 6, 7, 8, 9, 10, 11, 12, 13, 14, 15, 16, 17, 18, 19, 20, 22, 23, 0] rfl)
    · skip
      have c_672 : ¬ n16 = 0 := fun q => c_672 ((nI_eq (a := n16) (b := 0) (by omega) (by omega)).mpr q)
      rw [if_neg c_672] at hG
      refine lv_iload hx hb dL_law_675 (lv_at hl 21 rfl) ?_
      refine lv_iconst (v := (nI 5)) hx hb dL_law_677 (by decide) ?_
      refine lv_ishr hx hb dL_law_678 ?_
      refine lv_iconst (v := (nI 2)) hx hb dL_law_679 (by decide) ?_
      refine xcsR (As := [.int (y1 >>> ((nI 5) &&& 31)), .int (nI 2)]) (rest := []) (v := some (.int (nI (lowN (y1 >>> ((nI 5) &&& 31)) 2)))) ⟨hx, hb, hml, hown, hts⟩ (mL_low l s.heap.size D E h (y1 >>> ((nI 5) &&& 31)) 2 (by first | assumption | omega) (by first | assumption | omega)) (va_cwS 2 hts gL_law_L_low rfl rfl rfl (by decide +kernel) ⟨Nat.le_of_ble_eq_true rfl, Nat.le_of_ble_eq_true rfl⟩) I rfl hl.1 rfl (Nat.le_of_ble_eq_true rfl) dL_law_680 ⟨show cells + 0 ≤ 600086 by omega, show slots + 0 ≤ 7301442 by omega⟩ ?_
      refine W.eq (g2 := F0 m 683 ls [.int (nI (lowN (y1 >>> ((nI 5) &&& 31)) 2))]) rfl ?_
      have l680 : lowN (y1 >>> ((nI 5) &&& 31)) 2 < 2 := lowN_lt _ (by omega)
      refine lv_if_ne (tgt := 690) hx hb dL_law_683 (by decide) (fun c_683 => ?_) (fun c_683 => ?_)
      · skip
        have c_683 : ¬ lowN (y1 >>> ((nI 5) &&& 31)) 2 = 0 := fun q => c_683 ((nI_eq (a := (lowN (y1 >>> ((nI 5) &&& 31)) 2)) (b := 0) (by omega) (by omega)).mpr q)
        rw [if_neg c_683] at hG
        refine lv_iload hx hb dL_law_690 (lv_at hl 21 rfl) ?_
        refine lv_bipush (v := (nI 6)) hx hb dL_law_692 (by decide) ?_
        refine lv_ishr hx hb dL_law_694 ?_
        refine lv_iload hx hb dL_law_695 (lv_at hl 16 rfl) ?_
        refine xcsR (As := [.int (y1 >>> ((nI 6) &&& 31)), .int (nI n16)]) (rest := []) (v := some (.int (nI (lowN (y1 >>> ((nI 6) &&& 31)) n16)))) ⟨hx, hb, hml, hown, hts⟩ (mL_low l s.heap.size D E h (y1 >>> ((nI 6) &&& 31)) n16 (by first | assumption | omega) (by first | assumption | omega)) (va_cwS 2 hts gL_law_L_low rfl rfl rfl (by decide +kernel) ⟨Nat.le_of_ble_eq_true rfl, Nat.le_of_ble_eq_true rfl⟩) I rfl hl.1 rfl (Nat.le_of_ble_eq_true rfl) dL_law_697 ⟨show cells + 0 ≤ 600086 by omega, show slots + 0 ≤ 7301442 by omega⟩ ?_
        refine W.eq (g2 := F0 m 700 ls [.int (nI (lowN (y1 >>> ((nI 6) &&& 31)) n16))]) rfl ?_
        have l697 : lowN (y1 >>> ((nI 6) &&& 31)) n16 < n16 := lowN_lt _ (by omega)
        exact B700 (nI (lowN (y1 >>> ((nI 6) &&& 31)) n16)) (by first | exact Or.inl rfl | exact Or.inr ⟨_, by assumption, rfl⟩ | assumption) hG ls (lv_sub hl [1, 2, 3, 4, 5, 6, 7, 8, 9, 10, 11, 12, 13, 14, 15, 16, 17, 18, 19, 20, 22, 23, 0] rfl)
      · skip
        have c_683 : lowN (y1 >>> ((nI 5) &&& 31)) 2 = 0 := (nI_eq (a := (lowN (y1 >>> ((nI 5) &&& 31)) 2)) (b := 0) (by omega) (by omega)).mp c_683
        rw [if_pos c_683] at hG
        refine lv_iconst (v := (-1)) hx hb dL_law_686 (by decide) ?_
        refine lv_goto (tgt := 700) hx hb dL_law_687 (by decide) ?_
        exact B700 (-1) (by first | exact Or.inl rfl | exact Or.inr ⟨_, by assumption, rfl⟩ | assumption) hG ls (lv_sub hl [1, 2, 3, 4, 5, 6, 7, 8, 9, 10, 11, 12, 13, 14, 15, 16, 17, 18, 19, 20, 22, 23, 0] rfl)
  refine lv_if_ne (tgt := 663) hx hb dL_law_654 (by decide) (fun c_654 => ?_) (fun c_654 => ?_)
  · skip
    have c_654 : ¬ lowN (y1 >>> ((nI 8) &&& 31)) 2 = 0 := fun q => c_654 ((nI_eq (a := (lowN (y1 >>> ((nI 8) &&& 31)) 2)) (b := 0) (by omega) (by omega)).mpr q)
    rw [if_neg c_654] at hG
    refine lv_ldc (v := (nI 6000000)) hx hb hown (hts _ (List.mem_of_getElem? (i := 5) rfl)) dL_law_663 ?_
    exact B665 6000000 (by first | assumption | omega) (by first | assumption | omega) hG ls (lv_sub hl [1, 2, 3, 4, 5, 6, 7, 8, 9, 10, 11, 12, 13, 14, 15, 16, 17, 18, 19, 20, 21, 22, 0] rfl)
  · skip
    have c_654 : lowN (y1 >>> ((nI 8) &&& 31)) 2 = 0 := (nI_eq (a := (lowN (y1 >>> ((nI 8) &&& 31)) 2)) (b := 0) (by omega) (by omega)).mp c_654
    rw [if_pos c_654] at hG
    refine lv_sipush (v := (nI 1000)) hx hb dL_law_657 (by decide) ?_
    refine lv_goto (tgt := 665) hx hb dL_law_660 (by decide) ?_
    exact B665 1000 (by first | assumption | omega) (by first | assumption | omega) hG ls (lv_sub hl [1, 2, 3, 4, 5, 6, 7, 8, 9, 10, 11, 12, 13, 14, 15, 16, 17, 18, 19, 20, 21, 22, 0] rfl)
