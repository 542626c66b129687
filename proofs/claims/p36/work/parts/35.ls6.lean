def fSO_B2841 (σ : LT) (τ : CT) (q12 : Int64) (n14 : Nat) (n15 : Nat) (n16 : Nat) (n17 : Nat) (x2823 : Int32) (v2841_0 : Int32) : (Unit ⊕ Option ST) := (if x2823 = v2841_0 then (Sum.inl ()) else (Sum.inr none))
def fSO_S2783 (σ : LT) (τ : CT) (q12 : Int64) (n14 : Nat) (n15 : Nat) (n16 : Nat) (n17 : Nat) (k2783 : Nat) : (Unit ⊕ Option ST) := (lcall (Sum.inr none) (fX7_cost τ (nI k2783)) (fun x2792 => (if x2792 = (fL_cost σ n14 n15 n16 k2783) then (lcall (Sum.inr none) (fX7_isClosed τ (nI k2783)) (fun x2823 => (fSO_B2841 σ τ q12 n14 n15 n16 n17 x2823 (if lF σ ≤ k2783 then (nI 0) else (nI 1))))) else (Sum.inr none))))
def fSO_L2783 (σ : LT) (τ : CT) (q12 : Int64) (n14 : Nat) (n15 : Nat) (n16 : Nat) (n17 : Nat) : Nat → Nat → Option ST
  | 0, k2783 => (if (fX7_reserve τ) = q12 then (some (σ, τ, q12, n14, n15, n16, n17)) else none)
  | n2783 + 1, k2783 => lbind (fSO_S2783 σ τ q12 n14 n15 n16 n17 k2783) (fun q => fSO_L2783 σ τ q12 n14 n15 n16 n17 n2783 (k2783 + 1))
def fSO_S2735 (σ : LT) (τ : CT) (q12 : Int64) (n14 : Nat) (n15 : Nat) (n16 : Nat) (n17 : Nat) (k2735 : Nat) : (Unit ⊕ Option ST) := (lcall (Sum.inr none) (fX7_ofEvent τ (nI k2735) (nI 1)) (fun x2746 => (if x2746 = (fL_bears σ n14 n15 k2735) then (Sum.inl ()) else (Sum.inr none))))
def fSO_L2735 (σ : LT) (τ : CT) (q12 : Int64) (n14 : Nat) (n15 : Nat) (n16 : Nat) (n17 : Nat) : Nat → Nat → Option ST
  | 0, k2735 => (fSO_L2783 σ τ q12 n14 n15 n16 n17 3 0)
  | n2735 + 1, k2735 => lbind (fSO_S2735 σ τ q12 n14 n15 n16 n17 k2735) (fun q => fSO_L2735 σ τ q12 n14 n15 n16 n17 n2735 (k2735 + 1))
def fSO_B2719 (σ : LT) (τ : CT) (q12 : Int64) (n14 : Nat) (n15 : Nat) (n16 : Nat) (n17 : Nat) (x2695 : Int64) (v2719_0 : Int32) : (Unit ⊕ Option ST) := (if x2695 = v2719_0.toInt64 then (Sum.inl ()) else (Sum.inr none))
def fSO_S2684 (σ : LT) (τ : CT) (q12 : Int64) (n14 : Nat) (n15 : Nat) (n16 : Nat) (n17 : Nat) (k2684 : Nat) : (Unit ⊕ Option ST) := (lcall (Sum.inr none) (fX7_ofClaim τ (nI k2684) (nI 2)) (fun x2695 => (fSO_B2719 σ τ q12 n14 n15 n16 n17 x2695 (if (fL_covered σ n14 k2684) = 0 then (nI 0) else (nI 1)))))
def fSO_L2684 (σ : LT) (τ : CT) (q12 : Int64) (n14 : Nat) (n15 : Nat) (n16 : Nat) (n17 : Nat) : Nat → Nat → Option ST
  | 0, k2684 => (fSO_L2735 σ τ q12 n14 n15 n16 n17 n16 0)
  | n2684 + 1, k2684 => lbind (fSO_S2684 σ τ q12 n14 n15 n16 n17 k2684) (fun q => fSO_L2684 σ τ q12 n14 n15 n16 n17 n2684 (k2684 + 1))
def fSO_S2580 (σ : LT) (τ : CT) (q12 : Int64) (n14 : Nat) (n15 : Nat) (n16 : Nat) (n17 : Nat) (k2563 : Nat) (k2580 : Nat) (a2580_27 : Int64) : ((Int64) ⊕ (Unit ⊕ Option ST)) := (lcall (Sum.inr (Sum.inr none)) (fX7_due τ (nI k2563) (nI k2580)) (fun x2619 => (if x2619 = (fL_due σ n14 k2563 k2580) then (lcall (Sum.inr (Sum.inr none)) (fX7_weight τ (nI k2563) (nI k2580)) (fun x2633 => (if x2633 = (fL_weight σ n14 k2563 k2580) then (Sum.inl (a2580_27 + (fL_due σ n14 k2563 k2580))) else (Sum.inr (Sum.inr none))))) else (Sum.inr (Sum.inr none)))))
def fSO_L2580 (σ : LT) (τ : CT) (q12 : Int64) (n14 : Nat) (n15 : Nat) (n16 : Nat) (n17 : Nat) (k2563 : Nat) : Nat → Nat → Int64 → (Unit ⊕ Option ST)
  | 0, k2580, a2580_27 => (lcall (Sum.inr none) (fX7_owes τ (nI k2563)) (fun x2664 => (if x2664 = a2580_27 then (Sum.inl ()) else (Sum.inr none))))
  | n2580 + 1, k2580, a2580_27 => lbind (fSO_S2580 σ τ q12 n14 n15 n16 n17 k2563 k2580 a2580_27) (fun q => fSO_L2580 σ τ q12 n14 n15 n16 n17 k2563 n2580 (k2580 + 1) q)
def fSO_S2563 (σ : LT) (τ : CT) (q12 : Int64) (n14 : Nat) (n15 : Nat) (n16 : Nat) (n17 : Nat) (k2563 : Nat) : (Unit ⊕ Option ST) := (fSO_L2580 σ τ q12 n14 n15 n16 n17 k2563 3 0 (-(lL σ 9 k2563)))
def fSO_L2563 (σ : LT) (τ : CT) (q12 : Int64) (n14 : Nat) (n15 : Nat) (n16 : Nat) (n17 : Nat) : Nat → Nat → Option ST
  | 0, k2563 => (fSO_L2684 σ τ q12 n14 n15 n16 n17 n15 0)
  | n2563 + 1, k2563 => lbind (fSO_S2563 σ τ q12 n14 n15 n16 n17 k2563) (fun q => fSO_L2563 σ τ q12 n14 n15 n16 n17 n2563 (k2563 + 1))
def fSO (σ : LT) (τ : CT) (q12 : Int64) (n14 : Nat) (n15 : Nat) (n16 : Nat) (n17 : Nat) : Option ST := (fSO_L2563 σ τ q12 n14 n15 n16 n17 3 0)
set_option maxHeartbeats 4000000 in
set_option maxRecDepth 100000 in
theorem sSO {p : Program} {l : Launch} {e : Env} {s : State} {m : MethodId} {below : List Frame} {meth : Method} {c : Code} {b L : Nat} {xs : Nat → Int32} {Q : State → Prop} {D : va_G} {E : Nat → ClassId} {σ : LT} {τ : CT} {ad : Nat → Nat → Nat} {fa : Nat → Nat → Option Nat} {ar : Nat → Nat} {h : XW} {H : Heap} {locs : List Loc} {cells slots K Ks : Nat}  {q12 : Int64} {n14 n15 n16 n17 n18 n19 : Nat} {st : ST} {ls : Array Slot} (F : LF p l s m c b L xs) (I : XI s.heap.size D E h s H) (hL : RA E σ ar h) (hR : RC E (lPr ar) τ ad fa h) (hS : va_S (xA s.heap.size) s.heap H locs) (hW : LW σ) (hC : CW τ)  (h14 : n14 ≤ 12) (h15 : n15 ≤ 10) (h16 : n16 ≤ 10) (h17 : n17 < 300) (h18 : n18 < 1000) (h19 : n19 < 44) (hc1 : cells + 700 ≤ K) (hc2 : slots + 7000 ≤ Ks) (hK1 : K ≤ 600086) (hK2 : Ks ≤ 7301442) (hl : lv_has ls 39 [(0, .ref b), (1, .ref (ad 0 0)), (2, .ref (ar 0)), (3, .ref (ar 1)), (4, .ref (ar 2)), (5, .ref (ar 3)), (6, .ref (ar 4)), (7, .ref (ar 5)), (8, .ref (ar 6)), (9, .ref (ar 8)), (10, .ref (ar 7)), (11, .ref (ar 9)), (12, .long q12), (14, .int (nI n14)), (15, .int (nI n15)), (16, .int (nI n16)), (17, .int (nI n17)), (18, .int (nI n18)), (19, .int (nI n19))]) (kk : lKK p l e s m below meth c b D E ar Q K Ks n18 n19 2864 st) (hG : fSO σ τ q12 n14 n15 n16 n17 = some st) : W p l e room_1 s m #[Value.ref b] below meth c H locs cells slots Q (F0 m 2560 ls []) := by
  obtain ⟨hx, hb, hml, hown, hts, hX, hbl, hCa, hlst, hLL⟩ := id F
  have hbA : ¬ xA s.heap.size b := Nat.not_le.mpr hbl
  unfold fSO at hG
  refine lv_iconst (v := (nI 0)) hx hb dL_law_2560 (by decide) ?_
  refine lv_istore (lv' := [(26, .int (nI 0)), (0, .ref b), (1, .ref (ad 0 0)), (2, .ref (ar 0)), (3, .ref (ar 1)), (4, .ref (ar 2)), (5, .ref (ar 3)), (6, .ref (ar 4)), (7, .ref (ar 5)), (8, .ref (ar 6)), (9, .ref (ar 8)), (10, .ref (ar 7)), (11, .ref (ar 9)), (12, .long q12), (14, .int (nI n14)), (15, .int (nI n15)), (16, .int (nI n16)), (17, .int (nI n17)), (18, .int (nI n18)), (19, .int (nI n19))]) hx hb dL_law_2561 hl (by decide) rfl (fun ls hl => ?_)
  have L2563 : ∀ (n2563 : Nat) (k2563 : Nat), k2563 + n2563 = 3 → ∀ (ad : Nat → Nat → Nat) (fa : Nat → Nat → Option Nat) (H : Heap) (locs : List Loc) (hw : XW) (cells slots : Nat), XI s.heap.size D E hw s H → RA E σ ar hw → RC E (lPr ar) τ ad fa hw → va_S (xA s.heap.size) s.heap H locs → cells + (100 * n2563 + 400) ≤ K → slots + (1000 * n2563 + 4000) ≤ Ks → fSO_L2563 σ τ q12 n14 n15 n16 n17 n2563 k2563 = some st → ∀ ls : Array Slot, lv_has ls 39 [(0, .ref b), (1, .ref (ad 0 0)), (2, .ref (ar 0)), (3, .ref (ar 1)), (4, .ref (ar 2)), (5, .ref (ar 3)), (6, .ref (ar 4)), (7, .ref (ar 5)), (8, .ref (ar 6)), (9, .ref (ar 8)), (10, .ref (ar 7)), (11, .ref (ar 9)), (12, .long q12), (14, .int (nI n14)), (15, .int (nI n15)), (16, .int (nI n16)), (17, .int (nI n17)), (18, .int (nI n18)), (19, .int (nI n19)), (26, .int (nI k2563))] → W p l e room_1 s m #[Value.ref b] below meth c H locs cells slots Q (F0 m 2563 ls []) := by
    intro n2563
    induction n2563 with
    | zero =>
      intro k2563 hkn ad fa H locs hw cells slots I hL hR hS hc1 hc2 hG ls hl
      have hkN : k2563 = 3 := by omega
      have hG : (fSO_L2684 σ τ q12 n14 n15 n16 n17 n15 0) = some st := hG
      refine lv_iload hx hb dL_law_2563 (lv_at hl 19 rfl) ?_
      refine lv_iconst (v := (nI 3)) hx hb dL_law_2565 (by decide) ?_
      refine lv_icmp_ge (tgt := 2681) hx hb dL_law_2566 (by decide) (fun _ => ?_) (fun q => absurd (nI_le (Nat.le_of_eq hkN.symm) (by omega)) q)
      refine lv_iconst (v := (nI 0)) hx hb dL_law_2681 (by decide) ?_
      refine lv_istore (lv' := [(26, .int (nI 0)), (0, .ref b), (1, .ref (ad 0 0)), (2, .ref (ar 0)), (3, .ref (ar 1)), (4, .ref (ar 2)), (5, .ref (ar 3)), (6, .ref (ar 4)), (7, .ref (ar 5)), (8, .ref (ar 6)), (9, .ref (ar 8)), (10, .ref (ar 7)), (11, .ref (ar 9)), (12, .long q12), (14, .int (nI n14)), (15, .int (nI n15)), (16, .int (nI n16)), (17, .int (nI n17)), (18, .int (nI n18)), (19, .int (nI n19))]) hx hb dL_law_2682 hl (by decide) rfl (fun ls hl => ?_)
      have L2684 : ∀ (n2684 : Nat) (k2684 : Nat), k2684 + n2684 = n15 → ∀ (ad : Nat → Nat → Nat) (fa : Nat → Nat → Option Nat) (H : Heap) (locs : List Loc) (hw : XW) (cells slots : Nat), XI s.heap.size D E hw s H → RA E σ ar hw → RC E (lPr ar) τ ad fa hw → va_S (xA s.heap.size) s.heap H locs → cells + (10 * n2684 + 200) ≤ K → slots + (100 * n2684 + 2000) ≤ Ks → fSO_L2684 σ τ q12 n14 n15 n16 n17 n2684 k2684 = some st → ∀ ls : Array Slot, lv_has ls 39 [(0, .ref b), (1, .ref (ad 0 0)), (2, .ref (ar 0)), (3, .ref (ar 1)), (4, .ref (ar 2)), (5, .ref (ar 3)), (6, .ref (ar 4)), (7, .ref (ar 5)), (8, .ref (ar 6)), (9, .ref (ar 8)), (10, .ref (ar 7)), (11, .ref (ar 9)), (12, .long q12), (14, .int (nI n14)), (15, .int (nI n15)), (16, .int (nI n16)), (17, .int (nI n17)), (18, .int (nI n18)), (19, .int (nI n19)), (26, .int (nI k2684))] → W p l e room_1 s m #[Value.ref b] below meth c H locs cells slots Q (F0 m 2684 ls []) := by
        intro n2684
        induction n2684 with
        | zero =>
          intro k2684 hkn ad fa H locs hw cells slots I hL hR hS hc1 hc2 hG ls hl
          have hkN : k2684 = n15 := by omega
          have hG : (fSO_L2735 σ τ q12 n14 n15 n16 n17 n16 0) = some st := hG
          refine lv_iload hx hb dL_law_2684 (lv_at hl 19 rfl) ?_
          refine lv_iload hx hb dL_law_2686 (lv_at hl 14 rfl) ?_
          refine lv_icmp_ge (tgt := 2732) hx hb dL_law_2688 (by decide) (fun _ => ?_) (fun q => absurd (nI_le (Nat.le_of_eq hkN.symm) (by omega)) q)
          refine lv_iconst (v := (nI 0)) hx hb dL_law_2732 (by decide) ?_
          refine lv_istore (lv' := [(26, .int (nI 0)), (0, .ref b), (1, .ref (ad 0 0)), (2, .ref (ar 0)), (3, .ref (ar 1)), (4, .ref (ar 2)), (5, .ref (ar 3)), (6, .ref (ar 4)), (7, .ref (ar 5)), (8, .ref (ar 6)), (9, .ref (ar 8)), (10, .ref (ar 7)), (11, .ref (ar 9)), (12, .long q12), (14, .int (nI n14)), (15, .int (nI n15)), (16, .int (nI n16)), (17, .int (nI n17)), (18, .int (nI n18)), (19, .int (nI n19))]) hx hb dL_law_2733 hl (by decide) rfl (fun ls hl => ?_)
          have L2735 : ∀ (n2735 : Nat) (k2735 : Nat), k2735 + n2735 = n16 → ∀ (ad : Nat → Nat → Nat) (fa : Nat → Nat → Option Nat) (H : Heap) (locs : List Loc) (hw : XW) (cells slots : Nat), XI s.heap.size D E hw s H → RA E σ ar hw → RC E (lPr ar) τ ad fa hw → va_S (xA s.heap.size) s.heap H locs → cells + (10 * n2735 + 50) ≤ K → slots + (100 * n2735 + 500) ≤ Ks → fSO_L2735 σ τ q12 n14 n15 n16 n17 n2735 k2735 = some st → ∀ ls : Array Slot, lv_has ls 39 [(0, .ref b), (1, .ref (ad 0 0)), (2, .ref (ar 0)), (3, .ref (ar 1)), (4, .ref (ar 2)), (5, .ref (ar 3)), (6, .ref (ar 4)), (7, .ref (ar 5)), (8, .ref (ar 6)), (9, .ref (ar 8)), (10, .ref (ar 7)), (11, .ref (ar 9)), (12, .long q12), (14, .int (nI n14)), (15, .int (nI n15)), (16, .int (nI n16)), (17, .int (nI n17)), (18, .int (nI n18)), (19, .int (nI n19)), (26, .int (nI k2735))] → W p l e room_1 s m #[Value.ref b] below meth c H locs cells slots Q (F0 m 2735 ls []) := by
            intro n2735
            induction n2735 with
            | zero =>
              intro k2735 hkn ad fa H locs hw cells slots I hL hR hS hc1 hc2 hG ls hl
              have hkN : k2735 = n16 := by omega
              have hG : (fSO_L2783 σ τ q12 n14 n15 n16 n17 3 0) = some st := hG
              refine lv_iload hx hb dL_law_2735 (lv_at hl 19 rfl) ?_
              refine lv_iload hx hb dL_law_2737 (lv_at hl 15 rfl) ?_
              refine lv_icmp_ge (tgt := 2780) hx hb dL_law_2739 (by decide) (fun _ => ?_) (fun q => absurd (nI_le (Nat.le_of_eq hkN.symm) (by omega)) q)
              refine lv_iconst (v := (nI 0)) hx hb dL_law_2780 (by decide) ?_
              refine lv_istore (lv' := [(26, .int (nI 0)), (0, .ref b), (1, .ref (ad 0 0)), (2, .ref (ar 0)), (3, .ref (ar 1)), (4, .ref (ar 2)), (5, .ref (ar 3)), (6, .ref (ar 4)), (7, .ref (ar 5)), (8, .ref (ar 6)), (9, .ref (ar 8)), (10, .ref (ar 7)), (11, .ref (ar 9)), (12, .long q12), (14, .int (nI n14)), (15, .int (nI n15)), (16, .int (nI n16)), (17, .int (nI n17)), (18, .int (nI n18)), (19, .int (nI n19))]) hx hb dL_law_2781 hl (by decide) rfl (fun ls hl => ?_)
              have L2783 : ∀ (n2783 : Nat) (k2783 : Nat), k2783 + n2783 = 3 → ∀ (ad : Nat → Nat → Nat) (fa : Nat → Nat → Option Nat) (H : Heap) (locs : List Loc) (hw : XW) (cells slots : Nat), XI s.heap.size D E hw s H → RA E σ ar hw → RC E (lPr ar) τ ad fa hw → va_S (xA s.heap.size) s.heap H locs → cells + (10 * n2783 + 10) ≤ K → slots + (100 * n2783 + 100) ≤ Ks → fSO_L2783 σ τ q12 n14 n15 n16 n17 n2783 k2783 = some st → ∀ ls : Array Slot, lv_has ls 39 [(0, .ref b), (1, .ref (ad 0 0)), (2, .ref (ar 0)), (3, .ref (ar 1)), (4, .ref (ar 2)), (5, .ref (ar 3)), (6, .ref (ar 4)), (7, .ref (ar 5)), (8, .ref (ar 6)), (9, .ref (ar 8)), (10, .ref (ar 7)), (11, .ref (ar 9)), (12, .long q12), (14, .int (nI n14)), (15, .int (nI n15)), (16, .int (nI n16)), (17, .int (nI n17)), (18, .int (nI n18)), (19, .int (nI n19)), (26, .int (nI k2783))] → W p l e room_1 s m #[Value.ref b] below meth c H locs cells slots Q (F0 m 2783 ls []) := by
                intro n2783
                induction n2783 with
                | zero =>
                  intro k2783 hkn ad fa H locs hw cells slots I hL hR hS hc1 hc2 hG ls hl
                  have hkN : k2783 = 3 := by omega
                  have hG : (if (fX7_reserve τ) = q12 then (some (σ, τ, q12, n14, n15, n16, n17)) else none) = some st := hG
                  refine lv_iload hx hb dL_law_2783 (lv_at hl 19 rfl) ?_
                  refine lv_iconst (v := (nI 3)) hx hb dL_law_2785 (by decide) ?_
                  refine lv_icmp_ge (tgt := 2852) hx hb dL_law_2786 (by decide) (fun _ => ?_) (fun q => absurd (nI_le (Nat.le_of_eq hkN.symm) (by omega)) q)
                  refine lv_aload_n hx hb dL_law_2852 rfl (lv_at hl 1 rfl) ?_
                  refine xcvR (As := []) (rest := []) (v := some (.long (fX7_reserve τ))) ⟨hx, hb, hml, hown, hts⟩ (mX7_reserve l s.heap.size D E hw (lPr ar) τ ad fa hR hC) (cwV 0 hts gL_law_X7_reserve rfl rfl rfl (by decide +kernel) ⟨Nat.le_of_ble_eq_true rfl, Nat.le_of_ble_eq_true rfl⟩) I hR.f0 rfl rfl hl.1 rfl (Nat.le_of_ble_eq_true rfl) dL_law_2853 ⟨show cells + 0 ≤ 600086 by omega, show slots + 0 ≤ 7301442 by omega⟩ ?_
                  refine W.eq (g2 := F0 m 2856 ls [.long (fX7_reserve τ)]) rfl ?_
                  refine lv_lload hx hb dL_law_2856 (lv_at hl 12 rfl) ?_
                  refine xl_eq (tgt := 2864) hx hb dL_law_2858 dL_law_2859 (by decide) (fun c_2858 => ?_) (fun c_2858 => ?_)
                  · skip
                    rw [if_pos c_2858] at hG
                    have hst := Option.some.inj (show some (σ, τ, q12, n14, n15, n16, n17) = some st from hG)
                    subst hst
                    exact W.widen (by omega) (by omega) (kk _ _ _ _ _ _ I hL hR hS hW hC (lv_sub hl [0, 1, 2, 3, 4, 5, 6, 7, 8, 9, 10, 11, 12, 13, 14, 15, 16, 17, 18] rfl))
                  · skip
                    rw [if_neg c_2858] at hG
                    refine lv_iconst (v := (nI 0)) hx hb dL_law_2862 (by decide) ?_
                    exact absurd (show (none : Option ST) = some st from hG) (fun z => nomatch z)
                | succ n2783 ih2783 =>
                  intro k2783 hkn ad fa H locs hw cells slots I hL hR hS hc1 hc2 hG ls hl
                  have hk : k2783 < 3 := by omega
                  have hG : lbind ((lcall (Sum.inr none) (fX7_cost τ (nI k2783)) (fun x2792 => (if x2792 = (fL_cost σ n14 n15 n16 k2783) then (lcall (Sum.inr none) (fX7_isClosed τ (nI k2783)) (fun x2823 => (fSO_B2841 σ τ q12 n14 n15 n16 n17 x2823 (if lF σ ≤ k2783 then (nI 0) else (nI 1))))) else (Sum.inr none))))) (fun q => fSO_L2783 σ τ q12 n14 n15 n16 n17 n2783 (k2783 + 1)) = some st := hG
                  refine lv_iload hx hb dL_law_2783 (lv_at hl 19 rfl) ?_
                  refine lv_iconst (v := (nI 3)) hx hb dL_law_2785 (by decide) ?_
                  refine lv_icmp_ge (tgt := 2852) hx hb dL_law_2786 (by decide) (fun q => absurd q (nI_ge hk (by omega))) (fun _ => ?_)
                  refine lv_aload_n hx hb dL_law_2789 rfl (lv_at hl 1 rfl) ?_
                  refine lv_iload hx hb dL_law_2790 (lv_at hl 19 rfl) ?_
                  cases e2792 : (fX7_cost τ (nI k2783)) with
                  | inl En => rw [e2792] at hG; exact absurd (show (none : Option ST) = some st from hG) (fun z => nomatch z)
                  | inr x2792 =>
                    rw [e2792] at hG
                    have hG : lbind ((if x2792 = (fL_cost σ n14 n15 n16 k2783) then (lcall (Sum.inr none) (fX7_isClosed τ (nI k2783)) (fun x2823 => (fSO_B2841 σ τ q12 n14 n15 n16 n17 x2823 (if lF σ ≤ k2783 then (nI 0) else (nI 1))))) else (Sum.inr none))) (fun q => fSO_L2783 σ τ q12 n14 n15 n16 n17 n2783 (k2783 + 1)) = some st := hG
                    refine xcvN (As := [.int (nI k2783)]) (rest := []) ⟨hx, hb, hml, hown, hts⟩ (mX7_cost l s.heap.size D E hw hlst (lPr ar) τ ad fa hR hC (nI k2783)) (cwV 1 hts gL_law_X7_cost rfl rfl rfl (by decide +kernel) ⟨Nat.le_of_ble_eq_true rfl, Nat.le_of_ble_eq_true rfl⟩) I hS hR.f0 rfl rfl hl.1 rfl (Nat.le_of_ble_eq_true rfl) dL_law_2792 ⟨show cells + 1 ≤ 600086 by omega, show slots + 6 ≤ 7301442 by omega⟩ (fun En q => by rw [e2792] at q; cases q) (fun v9 hw9 H locs q9 I hS => ?_)
                    obtain ⟨y9, e9, q1, q2⟩ := q9
                    have e9 := Sum.inr.inj (e2792.symm.trans e9)
                    subst e9
                    subst q1
                    rw [q2] at I
                    refine W.eq (g2 := F0 m 2795 ls [.long x2792]) rfl ?_
                    refine lv_aload_n hx hb dL_law_2795 rfl (lv_at hl 2 rfl) ?_
                    refine lv_iload hx hb dL_law_2796 (lv_at hl 13 rfl) ?_
                    refine lv_aload_n hx hb dL_law_2798 rfl (lv_at hl 3 rfl) ?_
                    refine lv_aload hx hb dL_law_2799 (lv_at hl 5 rfl) ?_
                    refine lv_iload hx hb dL_law_2801 (lv_at hl 14 rfl) ?_
                    refine lv_aload hx hb dL_law_2803 (lv_at hl 6 rfl) ?_
                    refine lv_aload hx hb dL_law_2805 (lv_at hl 7 rfl) ?_
                    refine lv_aload hx hb dL_law_2807 (lv_at hl 10 rfl) ?_
                    refine lv_iload hx hb dL_law_2809 (lv_at hl 15 rfl) ?_
                    refine lv_iload hx hb dL_law_2811 (lv_at hl 19 rfl) ?_
                    refine xcsR (As := [.ref (ar 0), .int (nI n14), .ref (ar 1), .ref (ar 3), .int (nI n15), .ref (ar 4), .ref (ar 5), .ref (ar 7), .int (nI n16), .int (nI k2783)]) (rest := [.long x2792]) (v := some (.long (fL_cost σ n14 n15 n16 k2783))) ⟨hx, hb, hml, hown, hts⟩ (mL_cost l s.heap.size D E hw σ ar hL hW n14 n15 n16 k2783 (by first | assumption | omega) (by first | assumption | omega) (by first | assumption | omega) (by first | assumption | omega)) (va_cwS 10 hts gL_law_L_cost rfl rfl rfl (by decide +kernel) ⟨Nat.le_of_ble_eq_true rfl, Nat.le_of_ble_eq_true rfl⟩) I rfl hl.1 rfl (Nat.le_of_ble_eq_true rfl) dL_law_2813 ⟨show cells + 1 + 0 ≤ 600086 by omega, show slots + 6 + 0 ≤ 7301442 by omega⟩ ?_
                    refine W.eq (g2 := F0 m 2816 ls [.long (fL_cost σ n14 n15 n16 k2783), .long x2792]) rfl ?_
                    refine xl_ne (tgt := 2844) hx hb dL_law_2816 dL_law_2817 (by decide) (fun c_2816 => ?_) (fun c_2816 => ?_)
                    · skip
                      rw [if_neg c_2816] at hG
                      refine lv_iconst (v := (nI 0)) hx hb dL_law_2844 (by decide) ?_
                      exact absurd (show (none : Option ST) = some st from hG) (fun z => nomatch z)
                    · skip
                      rw [if_pos c_2816] at hG
                      refine lv_aload_n hx hb dL_law_2820 rfl (lv_at hl 1 rfl) ?_
                      refine lv_iload hx hb dL_law_2821 (lv_at hl 19 rfl) ?_
                      cases e2823 : (fX7_isClosed τ (nI k2783)) with
                      | inl En => rw [e2823] at hG; exact absurd (show (none : Option ST) = some st from hG) (fun z => nomatch z)
                      | inr x2823 =>
                        rw [e2823] at hG
                        have hG : lbind ((fSO_B2841 σ τ q12 n14 n15 n16 n17 x2823 (if lF σ ≤ k2783 then (nI 0) else (nI 1)))) (fun q => fSO_L2783 σ τ q12 n14 n15 n16 n17 n2783 (k2783 + 1)) = some st := hG
                        refine xcvN (As := [.int (nI k2783)]) (rest := []) ⟨hx, hb, hml, hown, hts⟩ (mX7_isClosed l s.heap.size D E hw hlst (lPr ar) τ ad fa hR hC (nI k2783)) (cwV 1 hts gL_law_X7_isClosed rfl rfl rfl (by decide +kernel) ⟨Nat.le_of_ble_eq_true rfl, Nat.le_of_ble_eq_true rfl⟩) I hS hR.f0 rfl rfl hl.1 rfl (Nat.le_of_ble_eq_true rfl) dL_law_2823 ⟨show cells + 1 + 1 ≤ 600086 by omega, show slots + 6 + 6 ≤ 7301442 by omega⟩ (fun En q => by rw [e2823] at q; cases q) (fun v9 hw9 H locs q9 I hS => ?_)
                        obtain ⟨y9, e9, q1, q2⟩ := q9
                        have e9 := Sum.inr.inj (e2823.symm.trans e9)
                        subst e9
                        subst q1
                        rw [q2] at I
                        refine W.eq (g2 := F0 m 2826 ls [.int x2823]) rfl ?_
                        refine lv_iload hx hb dL_law_2826 (lv_at hl 19 rfl) ?_
                        refine lv_aload hx hb dL_law_2828 (lv_at hl 10 rfl) ?_
                        refine lv_bipush (v := (nI 12)) hx hb dL_law_2830 (by decide) ?_
                        refine xiald (i := 12) (n := 16) hx hb I (hL.2.1 7 16 (by decide)) (by omega) (by decide) dL_law_2832 ?_
                        have f2832 : lI σ 7 12 = nI (lF σ) ∧ lF σ ≤ 3 := hW.2.2.2.2.1
                        refine xtop (y := .int (nI (lF σ))) (congrArg Value.int f2832.1) ?_
                        have b2832 := f2832.2
                        have B2841 : ∀ (v2841_0 : Int32), (v2841_0 = 0 ∨ v2841_0 = 1) → lbind (fSO_B2841 σ τ q12 n14 n15 n16 n17 x2823 v2841_0) (fun q => fSO_L2783 σ τ q12 n14 n15 n16 n17 n2783 (k2783 + 1)) = some st → ∀ ls : Array Slot, lv_has ls 39 [(0, .ref b), (1, .ref (ad 0 0)), (2, .ref (ar 0)), (3, .ref (ar 1)), (4, .ref (ar 2)), (5, .ref (ar 3)), (6, .ref (ar 4)), (7, .ref (ar 5)), (8, .ref (ar 6)), (9, .ref (ar 8)), (10, .ref (ar 7)), (11, .ref (ar 9)), (12, .long q12), (14, .int (nI n14)), (15, .int (nI n15)), (16, .int (nI n16)), (17, .int (nI n17)), (18, .int (nI n18)), (19, .int (nI n19)), (26, .int (nI k2783))] → W p l e room_1 s m #[Value.ref b] below meth c H locs (cells + 1 + 1) (slots + 6 + 6) Q (F0 m 2841 ls [.int v2841_0, .int x2823]) := by
                          intro v2841_0 zv2841_0 hG ls hl
                          unfold fSO_B2841 at hG
                          refine lv_icmp_eq (tgt := 2846) hx hb dL_law_2841 (by decide) (fun c_2841 => ?_) (fun c_2841 => ?_)
                          · skip
                            rw [if_pos c_2841] at hG
                            refine lv_iinc (v := (nI (k2783 + 1))) (lv' := [(26, .int (nI (k2783 + 1))), (0, .ref b), (1, .ref (ad 0 0)), (2, .ref (ar 0)), (3, .ref (ar 1)), (4, .ref (ar 2)), (5, .ref (ar 3)), (6, .ref (ar 4)), (7, .ref (ar 5)), (8, .ref (ar 6)), (9, .ref (ar 8)), (10, .ref (ar 7)), (11, .ref (ar 9)), (12, .long q12), (14, .int (nI n14)), (15, .int (nI n15)), (16, .int (nI n16)), (17, .int (nI n17)), (18, .int (nI n18)), (19, .int (nI n19))]) hx hb dL_law_2846 hl (k := 19) rfl (nI_succ k2783).symm (by decide) rfl (fun ls hl => ?_)
                            refine lv_goto (tgt := 2783) hx hb dL_law_2849 (by decide) ?_
                            exact ih2783 (k2783 + 1) (by first | omega | (simp only [lSI_K]; omega)) ad fa H locs hw (cells + 1 + 1) (slots + 6 + 6) I hL hR hS (by omega) (by omega) hG ls (lv_sub hl [1, 2, 3, 4, 5, 6, 7, 8, 9, 10, 11, 12, 13, 14, 15, 16, 17, 18, 19, 0] rfl)
                          · skip
                            rw [if_neg c_2841] at hG
                            refine lv_iconst (v := (nI 0)) hx hb dL_law_2844 (by decide) ?_
                            exact absurd (show (none : Option ST) = some st from hG) (fun z => nomatch z)
                        refine lv_icmp_ge (tgt := 2840) hx hb dL_law_2833 (by decide) (fun c_2833 => ?_) (fun c_2833 => ?_)
                        · skip
                          have c_2833 : lF σ ≤ k2783 := (nI_leI (a := (lF σ)) (b := k2783) (by omega) (by omega)).mp c_2833
                          rw [if_pos c_2833] at hG
                          refine lv_iconst (v := (nI 0)) hx hb dL_law_2840 (by decide) ?_
                          exact B2841 (nI 0) (Or.inl rfl) hG ls (lv_sub hl [0, 1, 2, 3, 4, 5, 6, 7, 8, 9, 10, 11, 12, 13, 14, 15, 16, 17, 18, 19] rfl)
                        · skip
                          have c_2833 : ¬ lF σ ≤ k2783 := fun q => c_2833 ((nI_leI (a := (lF σ)) (b := k2783) (by omega) (by omega)).mpr q)
                          rw [if_neg c_2833] at hG
                          refine lv_iconst (v := (nI 1)) hx hb dL_law_2836 (by decide) ?_
                          refine lv_goto (tgt := 2841) hx hb dL_law_2837 (by decide) ?_
                          exact B2841 (nI 1) (Or.inr rfl) hG ls (lv_sub hl [0, 1, 2, 3, 4, 5, 6, 7, 8, 9, 10, 11, 12, 13, 14, 15, 16, 17, 18, 19] rfl)
              exact L2783 3 0 (by omega) ad fa H locs hw cells slots I hL hR hS (by omega) (by omega) hG ls (lv_sub hl [1, 2, 3, 4, 5, 6, 7, 8, 9, 10, 11, 12, 13, 14, 15, 16, 17, 18, 19, 0] rfl)
            | succ n2735 ih2735 =>
              intro k2735 hkn ad fa H locs hw cells slots I hL hR hS hc1 hc2 hG ls hl
              have hk : k2735 < n16 := by omega
              have hG : lbind ((lcall (Sum.inr none) (fX7_ofEvent τ (nI k2735) (nI 1)) (fun x2746 => (if x2746 = (fL_bears σ n14 n15 k2735) then (Sum.inl ()) else (Sum.inr none))))) (fun q => fSO_L2735 σ τ q12 n14 n15 n16 n17 n2735 (k2735 + 1)) = some st := hG
              refine lv_iload hx hb dL_law_2735 (lv_at hl 19 rfl) ?_
              refine lv_iload hx hb dL_law_2737 (lv_at hl 15 rfl) ?_
              refine lv_icmp_ge (tgt := 2780) hx hb dL_law_2739 (by decide) (fun q => absurd q (nI_ge hk (by omega))) (fun _ => ?_)
              refine lv_aload_n hx hb dL_law_2742 rfl (lv_at hl 1 rfl) ?_
              refine lv_iload hx hb dL_law_2743 (lv_at hl 19 rfl) ?_
              refine lv_iconst (v := (nI 1)) hx hb dL_law_2745 (by decide) ?_
              cases e2746 : (fX7_ofEvent τ (nI k2735) (nI 1)) with
              | inl En => rw [e2746] at hG; exact absurd (show (none : Option ST) = some st from hG) (fun z => nomatch z)
              | inr x2746 =>
                rw [e2746] at hG
                have hG : lbind ((if x2746 = (fL_bears σ n14 n15 k2735) then (Sum.inl ()) else (Sum.inr none))) (fun q => fSO_L2735 σ τ q12 n14 n15 n16 n17 n2735 (k2735 + 1)) = some st := hG
                refine xcvN (As := [.int (nI k2735), .int (nI 1)]) (rest := []) ⟨hx, hb, hml, hown, hts⟩ (mX7_ofEvent l s.heap.size D E hw hlst (lPr ar) τ ad fa hR hC (nI k2735) (nI 1)) (cwV 2 hts gL_law_X7_ofEvent rfl rfl rfl (by decide +kernel) ⟨Nat.le_of_ble_eq_true rfl, Nat.le_of_ble_eq_true rfl⟩) I hS hR.f0 rfl rfl hl.1 rfl (Nat.le_of_ble_eq_true rfl) dL_law_2746 ⟨show cells + 2 ≤ 600086 by omega, show slots + 12 ≤ 7301442 by omega⟩ (fun En q => by rw [e2746] at q; cases q) (fun v9 hw9 H locs q9 I hS => ?_)
                obtain ⟨y9, e9, q1, q2⟩ := q9
                have e9 := Sum.inr.inj (e2746.symm.trans e9)
                subst e9
                subst q1
                rw [q2] at I
                refine W.eq (g2 := F0 m 2749 ls [.long x2746]) rfl ?_
                refine lv_aload_n hx hb dL_law_2749 rfl (lv_at hl 2 rfl) ?_
                refine lv_iload hx hb dL_law_2750 (lv_at hl 13 rfl) ?_
                refine lv_aload_n hx hb dL_law_2752 rfl (lv_at hl 3 rfl) ?_
                refine lv_aload hx hb dL_law_2753 (lv_at hl 5 rfl) ?_
                refine lv_iload hx hb dL_law_2755 (lv_at hl 14 rfl) ?_
                refine lv_aload hx hb dL_law_2757 (lv_at hl 6 rfl) ?_
                refine lv_aload hx hb dL_law_2759 (lv_at hl 7 rfl) ?_
                refine lv_aload hx hb dL_law_2761 (lv_at hl 10 rfl) ?_
                refine lv_iload hx hb dL_law_2763 (lv_at hl 19 rfl) ?_
                refine xcsR (As := [.ref (ar 0), .int (nI n14), .ref (ar 1), .ref (ar 3), .int (nI n15), .ref (ar 4), .ref (ar 5), .ref (ar 7), .int (nI k2735)]) (rest := [.long x2746]) (v := some (.long (fL_bears σ n14 n15 k2735))) ⟨hx, hb, hml, hown, hts⟩ (mL_bears l s.heap.size D E hw σ ar hL hW n14 n15 k2735 (by first | assumption | omega) (by first | assumption | omega) (by first | assumption | omega)) (va_cwS 9 hts gL_law_L_bears rfl rfl rfl (by decide +kernel) ⟨Nat.le_of_ble_eq_true rfl, Nat.le_of_ble_eq_true rfl⟩) I rfl hl.1 rfl (Nat.le_of_ble_eq_true rfl) dL_law_2765 ⟨show cells + 2 + 0 ≤ 600086 by omega, show slots + 12 + 0 ≤ 7301442 by omega⟩ ?_
                refine W.eq (g2 := F0 m 2768 ls [.long (fL_bears σ n14 n15 k2735), .long x2746]) rfl ?_
                refine xl_eq (tgt := 2774) hx hb dL_law_2768 dL_law_2769 (by decide) (fun c_2768 => ?_) (fun c_2768 => ?_)
                · skip
                  rw [if_pos c_2768] at hG
                  refine lv_iinc (v := (nI (k2735 + 1))) (lv' := [(26, .int (nI (k2735 + 1))), (0, .ref b), (1, .ref (ad 0 0)), (2, .ref (ar 0)), (3, .ref (ar 1)), (4, .ref (ar 2)), (5, .ref (ar 3)), (6, .ref (ar 4)), (7, .ref (ar 5)), (8, .ref (ar 6)), (9, .ref (ar 8)), (10, .ref (ar 7)), (11, .ref (ar 9)), (12, .long q12), (14, .int (nI n14)), (15, .int (nI n15)), (16, .int (nI n16)), (17, .int (nI n17)), (18, .int (nI n18)), (19, .int (nI n19))]) hx hb dL_law_2774 hl (k := 19) rfl (nI_succ k2735).symm (by decide) rfl (fun ls hl => ?_)
                  refine lv_goto (tgt := 2735) hx hb dL_law_2777 (by decide) ?_
                  exact ih2735 (k2735 + 1) (by first | omega | (simp only [lSI_K]; omega)) ad fa H locs hw (cells + 2) (slots + 12) I hL hR hS (by omega) (by omega) hG ls (lv_sub hl [1, 2, 3, 4, 5, 6, 7, 8, 9, 10, 11, 12, 13, 14, 15, 16, 17, 18, 19, 0] rfl)
                · skip
                  rw [if_neg c_2768] at hG
                  refine lv_iconst (v := (nI 0)) hx hb dL_law_2772 (by decide) ?_
                  exact absurd (show (none : Option ST) = some st from hG) (fun z => nomatch z)
          exact L2735 n16 0 (by omega) ad fa H locs hw cells slots I hL hR hS (by omega) (by omega) hG ls (lv_sub hl [1, 2, 3, 4, 5, 6, 7, 8, 9, 10, 11, 12, 13, 14, 15, 16, 17, 18, 19, 0] rfl)
        | succ n2684 ih2684 =>
          intro k2684 hkn ad fa H locs hw cells slots I hL hR hS hc1 hc2 hG ls hl
          have hk : k2684 < n15 := by omega
          have hG : lbind ((lcall (Sum.inr none) (fX7_ofClaim τ (nI k2684) (nI 2)) (fun x2695 => (fSO_B2719 σ τ q12 n14 n15 n16 n17 x2695 (if (fL_covered σ n14 k2684) = 0 then (nI 0) else (nI 1)))))) (fun q => fSO_L2684 σ τ q12 n14 n15 n16 n17 n2684 (k2684 + 1)) = some st := hG
          refine lv_iload hx hb dL_law_2684 (lv_at hl 19 rfl) ?_
          refine lv_iload hx hb dL_law_2686 (lv_at hl 14 rfl) ?_
          refine lv_icmp_ge (tgt := 2732) hx hb dL_law_2688 (by decide) (fun q => absurd q (nI_ge hk (by omega))) (fun _ => ?_)
          refine lv_aload_n hx hb dL_law_2691 rfl (lv_at hl 1 rfl) ?_
          refine lv_iload hx hb dL_law_2692 (lv_at hl 19 rfl) ?_
          refine lv_iconst (v := (nI 2)) hx hb dL_law_2694 (by decide) ?_
          cases e2695 : (fX7_ofClaim τ (nI k2684) (nI 2)) with
          | inl En => rw [e2695] at hG; exact absurd (show (none : Option ST) = some st from hG) (fun z => nomatch z)
          | inr x2695 =>
            rw [e2695] at hG
            have hG : lbind ((fSO_B2719 σ τ q12 n14 n15 n16 n17 x2695 (if (fL_covered σ n14 k2684) = 0 then (nI 0) else (nI 1)))) (fun q => fSO_L2684 σ τ q12 n14 n15 n16 n17 n2684 (k2684 + 1)) = some st := hG
            refine xcvN (As := [.int (nI k2684), .int (nI 2)]) (rest := []) ⟨hx, hb, hml, hown, hts⟩ (mX7_ofClaim l s.heap.size D E hw hlst (lPr ar) τ ad fa hR hC (nI k2684) (nI 2)) (cwV 2 hts gL_law_X7_ofClaim rfl rfl rfl (by decide +kernel) ⟨Nat.le_of_ble_eq_true rfl, Nat.le_of_ble_eq_true rfl⟩) I hS hR.f0 rfl rfl hl.1 rfl (Nat.le_of_ble_eq_true rfl) dL_law_2695 ⟨show cells + 2 ≤ 600086 by omega, show slots + 12 ≤ 7301442 by omega⟩ (fun En q => by rw [e2695] at q; cases q) (fun v9 hw9 H locs q9 I hS => ?_)
            obtain ⟨y9, e9, q1, q2⟩ := q9
            have e9 := Sum.inr.inj (e2695.symm.trans e9)
            subst e9
            subst q1
            rw [q2] at I
            refine W.eq (g2 := F0 m 2698 ls [.long x2695]) rfl ?_
            refine lv_aload_n hx hb dL_law_2698 rfl (lv_at hl 2 rfl) ?_
            refine lv_iload hx hb dL_law_2699 (lv_at hl 13 rfl) ?_
            refine lv_aload_n hx hb dL_law_2701 rfl (lv_at hl 3 rfl) ?_
            refine lv_aload hx hb dL_law_2702 (lv_at hl 5 rfl) ?_
            refine lv_aload hx hb dL_law_2704 (lv_at hl 10 rfl) ?_
            refine lv_iload hx hb dL_law_2706 (lv_at hl 19 rfl) ?_
            refine xcsR (As := [.ref (ar 0), .int (nI n14), .ref (ar 1), .ref (ar 3), .ref (ar 7), .int (nI k2684)]) (rest := [.long x2695]) (v := some (.int (fL_covered σ n14 k2684))) ⟨hx, hb, hml, hown, hts⟩ (mL_covered l s.heap.size D E hw σ ar hL hW n14 k2684 (by first | assumption | omega) (by first | assumption | omega)) (va_cwS 6 hts gL_law_L_covered rfl rfl rfl (by decide +kernel) ⟨Nat.le_of_ble_eq_true rfl, Nat.le_of_ble_eq_true rfl⟩) I rfl hl.1 rfl (Nat.le_of_ble_eq_true rfl) dL_law_2708 ⟨show cells + 2 + 0 ≤ 600086 by omega, show slots + 12 + 0 ≤ 7301442 by omega⟩ ?_
            refine W.eq (g2 := F0 m 2711 ls [.int (fL_covered σ n14 k2684), .long x2695]) rfl ?_
            have B2719 : ∀ (v2719_0 : Int32), (v2719_0 = 0 ∨ v2719_0 = 1) → lbind (fSO_B2719 σ τ q12 n14 n15 n16 n17 x2695 v2719_0) (fun q => fSO_L2684 σ τ q12 n14 n15 n16 n17 n2684 (k2684 + 1)) = some st → ∀ ls : Array Slot, lv_has ls 39 [(0, .ref b), (1, .ref (ad 0 0)), (2, .ref (ar 0)), (3, .ref (ar 1)), (4, .ref (ar 2)), (5, .ref (ar 3)), (6, .ref (ar 4)), (7, .ref (ar 5)), (8, .ref (ar 6)), (9, .ref (ar 8)), (10, .ref (ar 7)), (11, .ref (ar 9)), (12, .long q12), (14, .int (nI n14)), (15, .int (nI n15)), (16, .int (nI n16)), (17, .int (nI n17)), (18, .int (nI n18)), (19, .int (nI n19)), (26, .int (nI k2684))] → W p l e room_1 s m #[Value.ref b] below meth c H locs (cells + 2) (slots + 12) Q (F0 m 2719 ls [.int v2719_0, .long x2695]) := by
              intro v2719_0 zv2719_0 hG ls hl
              unfold fSO_B2719 at hG
              refine lv_i2l (v := v2719_0.toInt64) hx hb dL_law_2719 rfl ?_
              refine xl_eq (tgt := 2726) hx hb dL_law_2720 dL_law_2721 (by decide) (fun c_2720 => ?_) (fun c_2720 => ?_)
              · skip
                rw [if_pos c_2720] at hG
                refine lv_iinc (v := (nI (k2684 + 1))) (lv' := [(26, .int (nI (k2684 + 1))), (0, .ref b), (1, .ref (ad 0 0)), (2, .ref (ar 0)), (3, .ref (ar 1)), (4, .ref (ar 2)), (5, .ref (ar 3)), (6, .ref (ar 4)), (7, .ref (ar 5)), (8, .ref (ar 6)), (9, .ref (ar 8)), (10, .ref (ar 7)), (11, .ref (ar 9)), (12, .long q12), (14, .int (nI n14)), (15, .int (nI n15)), (16, .int (nI n16)), (17, .int (nI n17)), (18, .int (nI n18)), (19, .int (nI n19))]) hx hb dL_law_2726 hl (k := 19) rfl (nI_succ k2684).symm (by decide) rfl (fun ls hl => ?_)
                refine lv_goto (tgt := 2684) hx hb dL_law_2729 (by decide) ?_
                exact ih2684 (k2684 + 1) (by first | omega | (simp only [lSI_K]; omega)) ad fa H locs hw (cells + 2) (slots + 12) I hL hR hS (by omega) (by omega) hG ls (lv_sub hl [1, 2, 3, 4, 5, 6, 7, 8, 9, 10, 11, 12, 13, 14, 15, 16, 17, 18, 19, 0] rfl)
              · skip
                rw [if_neg c_2720] at hG
                refine lv_iconst (v := (nI 0)) hx hb dL_law_2724 (by decide) ?_
                exact absurd (show (none : Option ST) = some st from hG) (fun z => nomatch z)
            refine lv_if_eq (tgt := 2718) hx hb dL_law_2711 (by decide) (fun c_2711 => ?_) (fun c_2711 => ?_)
            · skip
              rw [if_pos c_2711] at hG
              refine lv_iconst (v := (nI 0)) hx hb dL_law_2718 (by decide) ?_
              exact B2719 (nI 0) (Or.inl rfl) hG ls (lv_sub hl [0, 1, 2, 3, 4, 5, 6, 7, 8, 9, 10, 11, 12, 13, 14, 15, 16, 17, 18, 19] rfl)
            · skip
              rw [if_neg c_2711] at hG
              refine lv_iconst (v := (nI 1)) hx hb dL_law_2714 (by decide) ?_
              refine lv_goto (tgt := 2719) hx hb dL_law_2715 (by decide) ?_
              exact B2719 (nI 1) (Or.inr rfl) hG ls (lv_sub hl [0, 1, 2, 3, 4, 5, 6, 7, 8, 9, 10, 11, 12, 13, 14, 15, 16, 17, 18, 19] rfl)
      exact L2684 n15 0 (by omega) ad fa H locs hw cells slots I hL hR hS (by omega) (by omega) hG ls (lv_sub hl [1, 2, 3, 4, 5, 6, 7, 8, 9, 10, 11, 12, 13, 14, 15, 16, 17, 18, 19, 0] rfl)
    | succ n2563 ih2563 =>
      intro k2563 hkn ad fa H locs hw cells slots I hL hR hS hc1 hc2 hG ls hl
      have hk : k2563 < 3 := by omega
      have hG : lbind ((fSO_L2580 σ τ q12 n14 n15 n16 n17 k2563 3 0 (-(lL σ 9 k2563)))) (fun q => fSO_L2563 σ τ q12 n14 n15 n16 n17 n2563 (k2563 + 1)) = some st := hG
      refine lv_iload hx hb dL_law_2563 (lv_at hl 19 rfl) ?_
      refine lv_iconst (v := (nI 3)) hx hb dL_law_2565 (by decide) ?_
      refine lv_icmp_ge (tgt := 2681) hx hb dL_law_2566 (by decide) (fun q => absurd q (nI_ge hk (by omega))) (fun _ => ?_)
      refine lv_aload hx hb dL_law_2569 (lv_at hl 11 rfl) ?_
      refine lv_iload hx hb dL_law_2571 (lv_at hl 19 rfl) ?_
      refine xlald (i := k2563) (n := 3) hx hb I (hL.2.2.1 9 3 (by decide)) (by omega) (by decide) dL_law_2573 ?_
      refine lv_lneg hx hb dL_law_2574 ?_
      refine lv_lstore (lv' := [(27, .long (-(lL σ 9 k2563))), (0, .ref b), (1, .ref (ad 0 0)), (2, .ref (ar 0)), (3, .ref (ar 1)), (4, .ref (ar 2)), (5, .ref (ar 3)), (6, .ref (ar 4)), (7, .ref (ar 5)), (8, .ref (ar 6)), (9, .ref (ar 8)), (10, .ref (ar 7)), (11, .ref (ar 9)), (12, .long q12), (14, .int (nI n14)), (15, .int (nI n15)), (16, .int (nI n16)), (17, .int (nI n17)), (18, .int (nI n18)), (19, .int (nI n19)), (26, .int (nI k2563))]) hx hb dL_law_2575 hl (by decide) rfl (fun ls hl => ?_)
      refine lv_iconst (v := (nI 0)) hx hb dL_law_2577 (by decide) ?_
      refine lv_istore (lv' := [(29, .int (nI 0)), (27, .long (-(lL σ 9 k2563))), (0, .ref b), (1, .ref (ad 0 0)), (2, .ref (ar 0)), (3, .ref (ar 1)), (4, .ref (ar 2)), (5, .ref (ar 3)), (6, .ref (ar 4)), (7, .ref (ar 5)), (8, .ref (ar 6)), (9, .ref (ar 8)), (10, .ref (ar 7)), (11, .ref (ar 9)), (12, .long q12), (14, .int (nI n14)), (15, .int (nI n15)), (16, .int (nI n16)), (17, .int (nI n17)), (18, .int (nI n18)), (19, .int (nI n19)), (26, .int (nI k2563))]) hx hb dL_law_2578 hl (by decide) rfl (fun ls hl => ?_)
      have L2580 : ∀ (n2580 : Nat) (k2580 : Nat) (a2580_27 : Int64), k2580 + n2580 = 3 → ∀ (ad : Nat → Nat → Nat) (fa : Nat → Nat → Option Nat) (H : Heap) (locs : List Loc) (hw : XW) (cells slots : Nat), XI s.heap.size D E hw s H → RA E σ ar hw → RC E (lPr ar) τ ad fa hw → va_S (xA s.heap.size) s.heap H locs → cells + (10 * n2580 + (100 * n2563 + 440)) ≤ K → slots + (100 * n2580 + (1000 * n2563 + 4400)) ≤ Ks → lbind (fSO_L2580 σ τ q12 n14 n15 n16 n17 k2563 n2580 k2580 a2580_27) (fun q => fSO_L2563 σ τ q12 n14 n15 n16 n17 n2563 (k2563 + 1)) = some st → ∀ ls : Array Slot, lv_has ls 39 [(0, .ref b), (1, .ref (ad 0 0)), (2, .ref (ar 0)), (3, .ref (ar 1)), (4, .ref (ar 2)), (5, .ref (ar 3)), (6, .ref (ar 4)), (7, .ref (ar 5)), (8, .ref (ar 6)), (9, .ref (ar 8)), (10, .ref (ar 7)), (11, .ref (ar 9)), (12, .long q12), (14, .int (nI n14)), (15, .int (nI n15)), (16, .int (nI n16)), (17, .int (nI n17)), (18, .int (nI n18)), (19, .int (nI n19)), (26, .int (nI k2563)), (27, .long a2580_27), (29, .int (nI k2580))] → W p l e room_1 s m #[Value.ref b] below meth c H locs cells slots Q (F0 m 2580 ls []) := by
        intro n2580
        induction n2580 with
        | zero =>
          intro k2580 a2580_27 hkn ad fa H locs hw cells slots I hL hR hS hc1 hc2 hG ls hl
          have hkN : k2580 = 3 := by omega
          have hG : lbind ((lcall (Sum.inr none) (fX7_owes τ (nI k2563)) (fun x2664 => (if x2664 = a2580_27 then (Sum.inl ()) else (Sum.inr none))))) (fun q => fSO_L2563 σ τ q12 n14 n15 n16 n17 n2563 (k2563 + 1)) = some st := hG
          refine lv_iload hx hb dL_law_2580 (lv_at hl 21 rfl) ?_
          refine lv_iconst (v := (nI 3)) hx hb dL_law_2582 (by decide) ?_
          refine lv_icmp_ge (tgt := 2661) hx hb dL_law_2583 (by decide) (fun _ => ?_) (fun q => absurd (nI_le (Nat.le_of_eq hkN.symm) (by omega)) q)
          refine lv_aload_n hx hb dL_law_2661 rfl (lv_at hl 1 rfl) ?_
          refine lv_iload hx hb dL_law_2662 (lv_at hl 19 rfl) ?_
          cases e2664 : (fX7_owes τ (nI k2563)) with
          | inl En => rw [e2664] at hG; exact absurd (show (none : Option ST) = some st from hG) (fun z => nomatch z)
          | inr x2664 =>
            rw [e2664] at hG
            have hG : lbind ((if x2664 = a2580_27 then (Sum.inl ()) else (Sum.inr none))) (fun q => fSO_L2563 σ τ q12 n14 n15 n16 n17 n2563 (k2563 + 1)) = some st := hG
            refine xcvN (As := [.int (nI k2563)]) (rest := []) ⟨hx, hb, hml, hown, hts⟩ (mX7_owes l s.heap.size D E hw hlst (lPr ar) τ ad fa hR hC (nI k2563)) (cwV 1 hts gL_law_X7_owes rfl rfl rfl (by decide +kernel) ⟨Nat.le_of_ble_eq_true rfl, Nat.le_of_ble_eq_true rfl⟩) I hS hR.f0 rfl rfl hl.1 rfl (Nat.le_of_ble_eq_true rfl) dL_law_2664 ⟨show cells + 1 ≤ 600086 by omega, show slots + 6 ≤ 7301442 by omega⟩ (fun En q => by rw [e2664] at q; cases q) (fun v9 hw9 H locs q9 I hS => ?_)
            obtain ⟨y9, e9, q1, q2⟩ := q9
            have e9 := Sum.inr.inj (e2664.symm.trans e9)
            subst e9
            subst q1
            rw [q2] at I
            refine W.eq (g2 := F0 m 2667 ls [.long x2664]) rfl ?_
            refine lv_lload hx hb dL_law_2667 (lv_at hl 20 rfl) ?_
            refine xl_eq (tgt := 2675) hx hb dL_law_2669 dL_law_2670 (by decide) (fun c_2669 => ?_) (fun c_2669 => ?_)
            · skip
              rw [if_pos c_2669] at hG
              refine lv_iinc (v := (nI (k2563 + 1))) (lv' := [(26, .int (nI (k2563 + 1))), (0, .ref b), (1, .ref (ad 0 0)), (2, .ref (ar 0)), (3, .ref (ar 1)), (4, .ref (ar 2)), (5, .ref (ar 3)), (6, .ref (ar 4)), (7, .ref (ar 5)), (8, .ref (ar 6)), (9, .ref (ar 8)), (10, .ref (ar 7)), (11, .ref (ar 9)), (12, .long q12), (14, .int (nI n14)), (15, .int (nI n15)), (16, .int (nI n16)), (17, .int (nI n17)), (18, .int (nI n18)), (19, .int (nI n19)), (27, .long a2580_27), (29, .int (nI k2580))]) hx hb dL_law_2675 hl (k := 19) rfl (nI_succ k2563).symm (by decide) rfl (fun ls hl => ?_)
              refine lv_goto (tgt := 2563) hx hb dL_law_2678 (by decide) ?_
              exact ih2563 (k2563 + 1) (by first | omega | (simp only [lSI_K]; omega)) ad fa H locs hw (cells + 1) (slots + 6) I hL hR hS (by omega) (by omega) hG ls (lv_sub hl [1, 2, 3, 4, 5, 6, 7, 8, 9, 10, 11, 12, 13, 14, 15, 16, 17, 18, 19, 0] rfl)
            · skip
              rw [if_neg c_2669] at hG
              refine lv_iconst (v := (nI 0)) hx hb dL_law_2673 (by decide) ?_
              exact absurd (show (none : Option ST) = some st from hG) (fun z => nomatch z)
        | succ n2580 ih2580 =>
          intro k2580 a2580_27 hkn ad fa H locs hw cells slots I hL hR hS hc1 hc2 hG ls hl
          have hk : k2580 < 3 := by omega
          have hG : lbind (lbind ((lcall (Sum.inr (Sum.inr none)) (fX7_due τ (nI k2563) (nI k2580)) (fun x2619 => (if x2619 = (fL_due σ n14 k2563 k2580) then (lcall (Sum.inr (Sum.inr none)) (fX7_weight τ (nI k2563) (nI k2580)) (fun x2633 => (if x2633 = (fL_weight σ n14 k2563 k2580) then (Sum.inl (a2580_27 + (fL_due σ n14 k2563 k2580))) else (Sum.inr (Sum.inr none))))) else (Sum.inr (Sum.inr none)))))) (fun q => fSO_L2580 σ τ q12 n14 n15 n16 n17 k2563 n2580 (k2580 + 1) q)) (fun q => fSO_L2563 σ τ q12 n14 n15 n16 n17 n2563 (k2563 + 1)) = some st := hG
          refine lv_iload hx hb dL_law_2580 (lv_at hl 21 rfl) ?_
          refine lv_iconst (v := (nI 3)) hx hb dL_law_2582 (by decide) ?_
          refine lv_icmp_ge (tgt := 2661) hx hb dL_law_2583 (by decide) (fun q => absurd q (nI_ge hk (by omega))) (fun _ => ?_)
          refine lv_aload_n hx hb dL_law_2586 rfl (lv_at hl 2 rfl) ?_
          refine lv_iload hx hb dL_law_2587 (lv_at hl 13 rfl) ?_
          refine lv_aload_n hx hb dL_law_2589 rfl (lv_at hl 3 rfl) ?_
          refine lv_aload hx hb dL_law_2590 (lv_at hl 4 rfl) ?_
          refine lv_aload hx hb dL_law_2592 (lv_at hl 8 rfl) ?_
          refine lv_aload hx hb dL_law_2594 (lv_at hl 9 rfl) ?_
          refine lv_aload hx hb dL_law_2596 (lv_at hl 10 rfl) ?_
          refine lv_iload hx hb dL_law_2598 (lv_at hl 19 rfl) ?_
          refine lv_iload hx hb dL_law_2600 (lv_at hl 21 rfl) ?_
          refine xcsR (As := [.ref (ar 0), .int (nI n14), .ref (ar 1), .ref (ar 2), .ref (ar 6), .ref (ar 8), .ref (ar 7), .int (nI k2563), .int (nI k2580)]) (rest := []) (v := some (.long (fL_due σ n14 k2563 k2580))) ⟨hx, hb, hml, hown, hts⟩ (mL_due l s.heap.size D E hw σ ar hL hW n14 k2563 k2580 (by first | assumption | omega) (by first | assumption | omega) (by first | assumption | omega)) (va_cwS 9 hts gL_law_L_due rfl rfl rfl (by decide +kernel) ⟨Nat.le_of_ble_eq_true rfl, Nat.le_of_ble_eq_true rfl⟩) I rfl hl.1 rfl (Nat.le_of_ble_eq_true rfl) dL_law_2602 ⟨show cells + 0 ≤ 600086 by omega, show slots + 0 ≤ 7301442 by omega⟩ ?_
          refine W.eq (g2 := F0 m 2605 ls [.long (fL_due σ n14 k2563 k2580)]) rfl ?_
          refine lv_lstore (lv' := [(30, .long (fL_due σ n14 k2563 k2580)), (0, .ref b), (1, .ref (ad 0 0)), (2, .ref (ar 0)), (3, .ref (ar 1)), (4, .ref (ar 2)), (5, .ref (ar 3)), (6, .ref (ar 4)), (7, .ref (ar 5)), (8, .ref (ar 6)), (9, .ref (ar 8)), (10, .ref (ar 7)), (11, .ref (ar 9)), (12, .long q12), (14, .int (nI n14)), (15, .int (nI n15)), (16, .int (nI n16)), (17, .int (nI n17)), (18, .int (nI n18)), (19, .int (nI n19)), (26, .int (nI k2563)), (27, .long a2580_27), (29, .int (nI k2580))]) hx hb dL_law_2605 hl (by decide) rfl (fun ls hl => ?_)
          refine lv_lload hx hb dL_law_2607 (lv_at hl 21 rfl) ?_
          refine lv_lload hx hb dL_law_2609 (lv_at hl 0 rfl) ?_
          refine lv_ladd hx hb dL_law_2611 ?_
          refine lv_lstore (lv' := [(27, .long (a2580_27 + (fL_due σ n14 k2563 k2580))), (30, .long (fL_due σ n14 k2563 k2580)), (0, .ref b), (1, .ref (ad 0 0)), (2, .ref (ar 0)), (3, .ref (ar 1)), (4, .ref (ar 2)), (5, .ref (ar 3)), (6, .ref (ar 4)), (7, .ref (ar 5)), (8, .ref (ar 6)), (9, .ref (ar 8)), (10, .ref (ar 7)), (11, .ref (ar 9)), (12, .long q12), (14, .int (nI n14)), (15, .int (nI n15)), (16, .int (nI n16)), (17, .int (nI n17)), (18, .int (nI n18)), (19, .int (nI n19)), (26, .int (nI k2563)), (29, .int (nI k2580))]) hx hb dL_law_2612 hl (by decide) rfl (fun ls hl => ?_)
          refine lv_aload_n hx hb dL_law_2614 rfl (lv_at hl 3 rfl) ?_
          refine lv_iload hx hb dL_law_2615 (lv_at hl 21 rfl) ?_
          refine lv_iload hx hb dL_law_2617 (lv_at hl 22 rfl) ?_
          cases e2619 : (fX7_due τ (nI k2563) (nI k2580)) with
          | inl En => rw [e2619] at hG; exact absurd (show (none : Option ST) = some st from hG) (fun z => nomatch z)
          | inr x2619 =>
            rw [e2619] at hG
            have hG : lbind (lbind ((if x2619 = (fL_due σ n14 k2563 k2580) then (lcall (Sum.inr (Sum.inr none)) (fX7_weight τ (nI k2563) (nI k2580)) (fun x2633 => (if x2633 = (fL_weight σ n14 k2563 k2580) then (Sum.inl (a2580_27 + (fL_due σ n14 k2563 k2580))) else (Sum.inr (Sum.inr none))))) else (Sum.inr (Sum.inr none)))) (fun q => fSO_L2580 σ τ q12 n14 n15 n16 n17 k2563 n2580 (k2580 + 1) q)) (fun q => fSO_L2563 σ τ q12 n14 n15 n16 n17 n2563 (k2563 + 1)) = some st := hG
            refine xcvN (As := [.int (nI k2563), .int (nI k2580)]) (rest := []) ⟨hx, hb, hml, hown, hts⟩ (mX7_due l s.heap.size D E hw hlst (lPr ar) τ ad fa hR hC (nI k2563) (nI k2580)) (cwV 2 hts gL_law_X7_due rfl rfl rfl (by decide +kernel) ⟨Nat.le_of_ble_eq_true rfl, Nat.le_of_ble_eq_true rfl⟩) I hS hR.f0 rfl rfl hl.1 rfl (Nat.le_of_ble_eq_true rfl) dL_law_2619 ⟨show cells + 2 ≤ 600086 by omega, show slots + 12 ≤ 7301442 by omega⟩ (fun En q => by rw [e2619] at q; cases q) (fun v9 hw9 H locs q9 I hS => ?_)
            obtain ⟨y9, e9, q1, q2⟩ := q9
            have e9 := Sum.inr.inj (e2619.symm.trans e9)
            subst e9
            subst q1
            rw [q2] at I
            refine W.eq (g2 := F0 m 2622 ls [.long x2619]) rfl ?_
            refine lv_lload hx hb dL_law_2622 (lv_at hl 1 rfl) ?_
            refine xl_ne (tgt := 2653) hx hb dL_law_2624 dL_law_2625 (by decide) (fun c_2624 => ?_) (fun c_2624 => ?_)
            · skip
              rw [if_neg c_2624] at hG
              refine lv_iconst (v := (nI 0)) hx hb dL_law_2653 (by decide) ?_
              exact absurd (show (none : Option ST) = some st from hG) (fun z => nomatch z)
            · skip
              rw [if_pos c_2624] at hG
              refine lv_aload_n hx hb dL_law_2628 rfl (lv_at hl 3 rfl) ?_
              refine lv_iload hx hb dL_law_2629 (lv_at hl 21 rfl) ?_
              refine lv_iload hx hb dL_law_2631 (lv_at hl 22 rfl) ?_
              cases e2633 : (fX7_weight τ (nI k2563) (nI k2580)) with
              | inl En => rw [e2633] at hG; exact absurd (show (none : Option ST) = some st from hG) (fun z => nomatch z)
              | inr x2633 =>
                rw [e2633] at hG
                have hG : lbind (lbind ((if x2633 = (fL_weight σ n14 k2563 k2580) then (Sum.inl (a2580_27 + (fL_due σ n14 k2563 k2580))) else (Sum.inr (Sum.inr none)))) (fun q => fSO_L2580 σ τ q12 n14 n15 n16 n17 k2563 n2580 (k2580 + 1) q)) (fun q => fSO_L2563 σ τ q12 n14 n15 n16 n17 n2563 (k2563 + 1)) = some st := hG
                refine xcvN (As := [.int (nI k2563), .int (nI k2580)]) (rest := []) ⟨hx, hb, hml, hown, hts⟩ (mX7_weight l s.heap.size D E hw hlst (lPr ar) τ ad fa hR hC (nI k2563) (nI k2580)) (cwV 2 hts gL_law_X7_weight rfl rfl rfl (by decide +kernel) ⟨Nat.le_of_ble_eq_true rfl, Nat.le_of_ble_eq_true rfl⟩) I hS hR.f0 rfl rfl hl.1 rfl (Nat.le_of_ble_eq_true rfl) dL_law_2633 ⟨show cells + 2 + 2 ≤ 600086 by omega, show slots + 12 + 12 ≤ 7301442 by omega⟩ (fun En q => by rw [e2633] at q; cases q) (fun v9 hw9 H locs q9 I hS => ?_)
                obtain ⟨y9, e9, q1, q2⟩ := q9
                have e9 := Sum.inr.inj (e2633.symm.trans e9)
                subst e9
                subst q1
                rw [q2] at I
                refine W.eq (g2 := F0 m 2636 ls [.long x2633]) rfl ?_
                refine lv_aload_n hx hb dL_law_2636 rfl (lv_at hl 4 rfl) ?_
                refine lv_iload hx hb dL_law_2637 (lv_at hl 15 rfl) ?_
                refine lv_aload_n hx hb dL_law_2639 rfl (lv_at hl 5 rfl) ?_
                refine lv_aload hx hb dL_law_2640 (lv_at hl 6 rfl) ?_
                refine lv_iload hx hb dL_law_2642 (lv_at hl 21 rfl) ?_
                refine lv_iload hx hb dL_law_2644 (lv_at hl 22 rfl) ?_
                refine xcsR (As := [.ref (ar 0), .int (nI n14), .ref (ar 1), .ref (ar 2), .int (nI k2563), .int (nI k2580)]) (rest := [.long x2633]) (v := some (.long (fL_weight σ n14 k2563 k2580))) ⟨hx, hb, hml, hown, hts⟩ (mL_weight l s.heap.size D E hw σ ar hL hW n14 k2563 k2580 (by first | assumption | omega) (by first | assumption | omega) (by first | assumption | omega)) (va_cwS 6 hts gL_law_L_weight rfl rfl rfl (by decide +kernel) ⟨Nat.le_of_ble_eq_true rfl, Nat.le_of_ble_eq_true rfl⟩) I rfl hl.1 rfl (Nat.le_of_ble_eq_true rfl) dL_law_2646 ⟨show cells + 2 + 2 + 0 ≤ 600086 by omega, show slots + 12 + 12 + 0 ≤ 7301442 by omega⟩ ?_
                refine W.eq (g2 := F0 m 2649 ls [.long (fL_weight σ n14 k2563 k2580), .long x2633]) rfl ?_
                refine xl_eq (tgt := 2655) hx hb dL_law_2649 dL_law_2650 (by decide) (fun c_2649 => ?_) (fun c_2649 => ?_)
                · skip
                  rw [if_pos c_2649] at hG
                  refine lv_iinc (v := (nI (k2580 + 1))) (lv' := [(29, .int (nI (k2580 + 1))), (27, .long (a2580_27 + (fL_due σ n14 k2563 k2580))), (30, .long (fL_due σ n14 k2563 k2580)), (0, .ref b), (1, .ref (ad 0 0)), (2, .ref (ar 0)), (3, .ref (ar 1)), (4, .ref (ar 2)), (5, .ref (ar 3)), (6, .ref (ar 4)), (7, .ref (ar 5)), (8, .ref (ar 6)), (9, .ref (ar 8)), (10, .ref (ar 7)), (11, .ref (ar 9)), (12, .long q12), (14, .int (nI n14)), (15, .int (nI n15)), (16, .int (nI n16)), (17, .int (nI n17)), (18, .int (nI n18)), (19, .int (nI n19)), (26, .int (nI k2563))]) hx hb dL_law_2655 hl (k := 22) rfl (nI_succ k2580).symm (by decide) rfl (fun ls hl => ?_)
                  refine lv_goto (tgt := 2580) hx hb dL_law_2658 (by decide) ?_
                  exact ih2580 (k2580 + 1) (a2580_27 + (fL_due σ n14 k2563 k2580)) (by first | omega | (simp only [lSI_K]; omega)) ad fa H locs hw (cells + 2 + 2) (slots + 12 + 12) I hL hR hS (by omega) (by omega) hG ls (lv_sub hl [3, 4, 5, 6, 7, 8, 9, 10, 11, 12, 13, 14, 15, 16, 17, 18, 19, 20, 21, 22, 1, 0] rfl)
                · skip
                  rw [if_neg c_2649] at hG
                  refine lv_iconst (v := (nI 0)) hx hb dL_law_2653 (by decide) ?_
                  exact absurd (show (none : Option ST) = some st from hG) (fun z => nomatch z)
      exact L2580 3 0 (-(lL σ 9 k2563)) (by omega) ad fa H locs hw cells slots I hL hR hS (by omega) (by omega) hG ls (lv_sub hl [2, 3, 4, 5, 6, 7, 8, 9, 10, 11, 12, 13, 14, 15, 16, 17, 18, 19, 20, 21, 1, 0] rfl)
  exact L2563 3 0 (by omega) ad fa H locs h cells slots I hL hR hS (by omega) (by omega) hG ls (lv_sub hl [1, 2, 3, 4, 5, 6, 7, 8, 9, 10, 11, 12, 13, 14, 15, 16, 17, 18, 19, 0] rfl)
