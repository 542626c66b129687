def fS1595_S1750 (σ : LT) (τ : CT) (q12 : Int64) (n14 : Nat) (n15 : Nat) (n16 : Nat) (n17 : Nat) (w23 : Nat) (y1 : Int32) (a1601_28 : Nat) (x1718 : (Int32 × CT)) (k1750 : Nat) (σ1750 : LT) : ((LT) ⊕ Option ST) := (if a1601_28 = 0 then (Sum.inl (if 0 < (lI σ1750 7 (3 * w23 + k1750)) then σ1750 else (if (fL_weight σ1750 n14 w23 k1750) = (0 : Int64) then σ1750 else (lSI (lSL σ1750 8 (3 * w23 + k1750) ((fL_due σ1750 n14 w23 k1750) + (((((fL_weight σ1750 n14 w23 k1750) * (lN (lK σ1750 6 k1750))) / (1000 : Int64)) * (lN (lowN (y1 >>> ((nI 2) &&& 31)) 201))) / (100 : Int64)))) 7 (3 * w23 + k1750) (nI 1))))) else (Sum.inr (some (σ1750, x1718.2, q12, n14, n15, n16, n17))))
def fS1595_L1750 (σ : LT) (τ : CT) (q12 : Int64) (n14 : Nat) (n15 : Nat) (n16 : Nat) (n17 : Nat) (w23 : Nat) (y1 : Int32) (a1601_28 : Nat) (x1718 : (Int32 × CT)) : Nat → Nat → LT → Option ST
  | 0, k1750, σ1750 => (some (σ1750, x1718.2, q12, n14, n15, n16, n17))
  | n1750 + 1, k1750, σ1750 => lbind (fS1595_S1750 σ τ q12 n14 n15 n16 n17 w23 y1 a1601_28 x1718 k1750 σ1750) (fun q => fS1595_L1750 σ τ q12 n14 n15 n16 n17 w23 y1 a1601_28 x1718 n1750 (k1750 + 1) q)
def fS1595_B1738 (σ : LT) (τ : CT) (q12 : Int64) (n14 : Nat) (n15 : Nat) (n16 : Nat) (n17 : Nat) (w23 : Nat) (y1 : Int32) (a1601_28 : Nat) (x1718 : (Int32 × CT)) (v1738_0 : Int32) : Option ST := (if x1718.1 = v1738_0 then (fS1595_L1750 σ τ q12 n14 n15 n16 n17 w23 y1 a1601_28 x1718 (3 - lF σ) (lF σ) σ) else none)
def fS1595_S1654 (σ : LT) (τ : CT) (q12 : Int64) (n14 : Nat) (n15 : Nat) (n16 : Nat) (n17 : Nat) (w23 : Nat) (y1 : Int32) (a1601_28 : Nat) (k1654 : Nat) (a1654_29 : Nat) : (Nat) := (if (lI σ 7 (3 * w23 + k1654)) = 0 then (if (fL_weight σ n14 w23 k1654) ≤ (0 : Int64) then a1654_29 else a1654_29 + 1) else a1654_29)
def fS1595_L1654 (σ : LT) (τ : CT) (q12 : Int64) (n14 : Nat) (n15 : Nat) (n16 : Nat) (n17 : Nat) (w23 : Nat) (y1 : Int32) (a1601_28 : Nat) : Nat → Nat → Nat → Option ST
  | 0, k1654, a1654_29 => (lcall none (fL_tried0 τ (nI w23) (nI (lowN (y1 >>> ((nI 2) &&& 31)) 201))) (fun x1718 => (fS1595_B1738 σ τ q12 n14 n15 n16 n17 w23 y1 a1601_28 x1718 (if a1601_28 = 0 then (if a1654_29 = 0 then (-9) else (nI a1654_29)) else (-9)))))
  | n1654 + 1, k1654, a1654_29 => lseq (fS1595_S1654 σ τ q12 n14 n15 n16 n17 w23 y1 a1601_28 k1654 a1654_29) (fun q => fS1595_L1654 σ τ q12 n14 n15 n16 n17 w23 y1 a1601_28 n1654 (k1654 + 1) q)
def fS1595_S1601 (σ : LT) (τ : CT) (q12 : Int64) (n14 : Nat) (n15 : Nat) (n16 : Nat) (n17 : Nat) (w23 : Nat) (y1 : Int32) (k1601 : Nat) (a1601_28 : Nat) : (Nat) := (if lK σ 1 (lK σ 0 (3 * k1601)) = w23 then (if lK σ 0 (3 * k1601 + 2) = 9999 then 1 else a1601_28) else a1601_28)
def fS1595_L1601 (σ : LT) (τ : CT) (q12 : Int64) (n14 : Nat) (n15 : Nat) (n16 : Nat) (n17 : Nat) (w23 : Nat) (y1 : Int32) : Nat → Nat → Nat → Option ST
  | 0, k1601, a1601_28 => (fS1595_L1654 σ τ q12 n14 n15 n16 n17 w23 y1 a1601_28 (3 - lF σ) (lF σ) 0)
  | n1601 + 1, k1601, a1601_28 => lseq (fS1595_S1601 σ τ q12 n14 n15 n16 n17 w23 y1 k1601 a1601_28) (fun q => fS1595_L1601 σ τ q12 n14 n15 n16 n17 w23 y1 n1601 (k1601 + 1) q)
def fS1595 (σ : LT) (τ : CT) (q12 : Int64) (n14 : Nat) (n15 : Nat) (n16 : Nat) (n17 : Nat) (w23 : Nat) (y1 : Int32) : Option ST := (fS1595_L1601 σ τ q12 n14 n15 n16 n17 w23 y1 n14 0 0)
set_option maxHeartbeats 4000000 in
set_option maxRecDepth 100000 in
theorem sS1595 {p : Program} {l : Launch} {e : Env} {s : State} {m : MethodId} {below : List Frame} {meth : Method} {c : Code} {b L : Nat} {xs : Nat → Int32} {Q : State → Prop} {D : va_G} {E : Nat → ClassId} {σ : LT} {τ : CT} {ad : Nat → Nat → Nat} {fa : Nat → Nat → Option Nat} {ar : Nat → Nat} {h : XW} {H : Heap} {locs : List Loc} {cells slots K Ks : Nat}  {q12 : Int64} {n14 n15 n16 n17 n18 n19 : Nat} {w23 : Nat} {y1 : Int32} {st : ST} {ls : Array Slot} (F : LF p l s m c b L xs) (I : XI s.heap.size D E h s H) (hL : RA E σ ar h) (hR : RC E (lPr ar) τ ad fa h) (hS : va_S (xA s.heap.size) s.heap H locs) (hW : LW σ) (hC : CW τ)  (h14 : n14 ≤ 12) (h15 : n15 ≤ 10) (h16 : n16 ≤ 10) (h17 : n17 < 300) (h18 : n18 < 1000) (h19 : n19 < 44) (h23 : w23 < 3) (hc1 : cells + 100 ≤ K) (hc2 : slots + 1000 ≤ Ks) (hK1 : K ≤ 600086) (hK2 : Ks ≤ 7301442) (hl : lv_has ls 39 [(0, .ref b), (1, .ref (ad 0 0)), (2, .ref (ar 0)), (3, .ref (ar 1)), (4, .ref (ar 2)), (5, .ref (ar 3)), (6, .ref (ar 4)), (7, .ref (ar 5)), (8, .ref (ar 6)), (9, .ref (ar 8)), (10, .ref (ar 7)), (11, .ref (ar 9)), (12, .long q12), (14, .int (nI n14)), (15, .int (nI n15)), (16, .int (nI n16)), (17, .int (nI n17)), (18, .int (nI n18)), (19, .int (nI n19)), (23, .int (nI w23)), (21, .int y1)]) (kk : lKK p l e s m below meth c b D E ar Q K Ks n18 n19 2560 st) (hG : fS1595 σ τ q12 n14 n15 n16 n17 w23 y1 = some st) : W p l e room_1 s m #[Value.ref b] below meth c H locs cells slots Q (F0 m 1595 ls []) := by
  obtain ⟨hx, hb, hml, hown, hts, hX, hbl, hCa, hlst, hLL⟩ := id F
  have hbA : ¬ xA s.heap.size b := Nat.not_le.mpr hbl
  unfold fS1595 at hG
  refine lv_iconst (v := (nI 0)) hx hb dL_law_1595 (by decide) ?_
  refine lv_istore (lv' := [(28, .int (nI 0)), (0, .ref b), (1, .ref (ad 0 0)), (2, .ref (ar 0)), (3, .ref (ar 1)), (4, .ref (ar 2)), (5, .ref (ar 3)), (6, .ref (ar 4)), (7, .ref (ar 5)), (8, .ref (ar 6)), (9, .ref (ar 8)), (10, .ref (ar 7)), (11, .ref (ar 9)), (12, .long q12), (14, .int (nI n14)), (15, .int (nI n15)), (16, .int (nI n16)), (17, .int (nI n17)), (18, .int (nI n18)), (19, .int (nI n19)), (23, .int (nI w23)), (21, .int y1)]) hx hb dL_law_1596 hl (by decide) rfl (fun ls hl => ?_)
  refine lv_iconst (v := (nI 0)) hx hb dL_law_1598 (by decide) ?_
  refine lv_istore (lv' := [(29, .int (nI 0)), (28, .int (nI 0)), (0, .ref b), (1, .ref (ad 0 0)), (2, .ref (ar 0)), (3, .ref (ar 1)), (4, .ref (ar 2)), (5, .ref (ar 3)), (6, .ref (ar 4)), (7, .ref (ar 5)), (8, .ref (ar 6)), (9, .ref (ar 8)), (10, .ref (ar 7)), (11, .ref (ar 9)), (12, .long q12), (14, .int (nI n14)), (15, .int (nI n15)), (16, .int (nI n16)), (17, .int (nI n17)), (18, .int (nI n18)), (19, .int (nI n19)), (23, .int (nI w23)), (21, .int y1)]) hx hb dL_law_1599 hl (by decide) rfl (fun ls hl => ?_)
  have L1601 : ∀ (n1601 : Nat) (k1601 : Nat) (a1601_28 : Nat), k1601 + n1601 = n14 → (a1601_28 ≤ 1) → fS1595_L1601 σ τ q12 n14 n15 n16 n17 w23 y1 n1601 k1601 a1601_28 = some st → ∀ ls : Array Slot, lv_has ls 39 [(0, .ref b), (1, .ref (ad 0 0)), (2, .ref (ar 0)), (3, .ref (ar 1)), (4, .ref (ar 2)), (5, .ref (ar 3)), (6, .ref (ar 4)), (7, .ref (ar 5)), (8, .ref (ar 6)), (9, .ref (ar 8)), (10, .ref (ar 7)), (11, .ref (ar 9)), (12, .long q12), (14, .int (nI n14)), (15, .int (nI n15)), (16, .int (nI n16)), (17, .int (nI n17)), (18, .int (nI n18)), (19, .int (nI n19)), (21, .int y1), (23, .int (nI w23)), (28, .int (nI a1601_28)), (29, .int (nI k1601))] → W p l e room_1 s m #[Value.ref b] below meth c H locs cells slots Q (F0 m 1601 ls []) := by
    intro n1601
    induction n1601 with
    | zero =>
      intro k1601 a1601_28 hkn i1601_0 hG ls hl
      have hkN : k1601 = n14 := by omega
      have hG : (fS1595_L1654 σ τ q12 n14 n15 n16 n17 w23 y1 a1601_28 (3 - lF σ) (lF σ) 0) = some st := hG
      refine lv_iload hx hb dL_law_1601 (lv_at hl 22 rfl) ?_
      refine lv_iload hx hb dL_law_1603 (lv_at hl 13 rfl) ?_
      refine lv_icmp_ge (tgt := 1644) hx hb dL_law_1605 (by decide) (fun _ => ?_) (fun q => absurd (nI_le (Nat.le_of_eq hkN.symm) (by omega)) q)
      refine lv_iconst (v := (nI 0)) hx hb dL_law_1644 (by decide) ?_
      refine lv_istore (lv' := [(29, .int (nI 0)), (0, .ref b), (1, .ref (ad 0 0)), (2, .ref (ar 0)), (3, .ref (ar 1)), (4, .ref (ar 2)), (5, .ref (ar 3)), (6, .ref (ar 4)), (7, .ref (ar 5)), (8, .ref (ar 6)), (9, .ref (ar 8)), (10, .ref (ar 7)), (11, .ref (ar 9)), (12, .long q12), (14, .int (nI n14)), (15, .int (nI n15)), (16, .int (nI n16)), (17, .int (nI n17)), (18, .int (nI n18)), (19, .int (nI n19)), (21, .int y1), (23, .int (nI w23)), (28, .int (nI a1601_28))]) hx hb dL_law_1645 hl (by decide) rfl (fun ls hl => ?_)
      refine lv_aload hx hb dL_law_1647 (lv_at hl 11 rfl) ?_
      refine lv_bipush (v := (nI 12)) hx hb dL_law_1649 (by decide) ?_
      refine xiald (i := 12) (n := 16) hx hb I (hL.2.1 7 16 (by decide)) (by omega) (by decide) dL_law_1651 ?_
      have f1651 : lI σ 7 12 = nI (lF σ) ∧ lF σ ≤ 3 := hW.2.2.2.2.1
      refine xtop (y := .int (nI (lF σ))) (congrArg Value.int f1651.1) ?_
      have b1651 := f1651.2
      refine lv_istore (lv' := [(30, .int (nI (lF σ))), (29, .int (nI 0)), (0, .ref b), (1, .ref (ad 0 0)), (2, .ref (ar 0)), (3, .ref (ar 1)), (4, .ref (ar 2)), (5, .ref (ar 3)), (6, .ref (ar 4)), (7, .ref (ar 5)), (8, .ref (ar 6)), (9, .ref (ar 8)), (10, .ref (ar 7)), (11, .ref (ar 9)), (12, .long q12), (14, .int (nI n14)), (15, .int (nI n15)), (16, .int (nI n16)), (17, .int (nI n17)), (18, .int (nI n18)), (19, .int (nI n19)), (21, .int y1), (23, .int (nI w23)), (28, .int (nI a1601_28))]) hx hb dL_law_1652 hl (by decide) rfl (fun ls hl => ?_)
      have L1654 : ∀ (n1654 : Nat) (k1654 : Nat) (a1654_29 : Nat), k1654 + n1654 = 3 → (a1654_29 ≤ k1654) → fS1595_L1654 σ τ q12 n14 n15 n16 n17 w23 y1 a1601_28 n1654 k1654 a1654_29 = some st → ∀ ls : Array Slot, lv_has ls 39 [(0, .ref b), (1, .ref (ad 0 0)), (2, .ref (ar 0)), (3, .ref (ar 1)), (4, .ref (ar 2)), (5, .ref (ar 3)), (6, .ref (ar 4)), (7, .ref (ar 5)), (8, .ref (ar 6)), (9, .ref (ar 8)), (10, .ref (ar 7)), (11, .ref (ar 9)), (12, .long q12), (14, .int (nI n14)), (15, .int (nI n15)), (16, .int (nI n16)), (17, .int (nI n17)), (18, .int (nI n18)), (19, .int (nI n19)), (21, .int y1), (23, .int (nI w23)), (28, .int (nI a1601_28)), (29, .int (nI a1654_29)), (30, .int (nI k1654))] → W p l e room_1 s m #[Value.ref b] below meth c H locs cells slots Q (F0 m 1654 ls []) := by
        intro n1654
        induction n1654 with
        | zero =>
          intro k1654 a1654_29 hkn i1654_0 hG ls hl
          have hkN : k1654 = 3 := by omega
          have hG : (lcall none (fL_tried0 τ (nI w23) (nI (lowN (y1 >>> ((nI 2) &&& 31)) 201))) (fun x1718 => (fS1595_B1738 σ τ q12 n14 n15 n16 n17 w23 y1 a1601_28 x1718 (if a1601_28 = 0 then (if a1654_29 = 0 then (-9) else (nI a1654_29)) else (-9))))) = some st := hG
          refine lv_iload hx hb dL_law_1654 (lv_at hl 23 rfl) ?_
          refine lv_iconst (v := (nI 3)) hx hb dL_law_1656 (by decide) ?_
          refine lv_icmp_ge (tgt := 1700) hx hb dL_law_1657 (by decide) (fun _ => ?_) (fun q => absurd (nI_le (Nat.le_of_eq hkN.symm) (by omega)) q)
          refine lv_iload hx hb dL_law_1700 (lv_at hl 19 rfl) ?_
          refine lv_iconst (v := (nI 2)) hx hb dL_law_1702 (by decide) ?_
          refine lv_ishr hx hb dL_law_1703 ?_
          refine lv_sipush (v := (nI 201)) hx hb dL_law_1704 (by decide) ?_
          refine xcsR (As := [.int (y1 >>> ((nI 2) &&& 31)), .int (nI 201)]) (rest := []) (v := some (.int (nI (lowN (y1 >>> ((nI 2) &&& 31)) 201)))) ⟨hx, hb, hml, hown, hts⟩ (mL_low l s.heap.size D E h (y1 >>> ((nI 2) &&& 31)) 201 (by first | assumption | omega) (by first | assumption | omega)) (va_cwS 2 hts gL_law_L_low rfl rfl rfl (by decide +kernel) ⟨Nat.le_of_ble_eq_true rfl, Nat.le_of_ble_eq_true rfl⟩) I rfl hl.1 rfl (Nat.le_of_ble_eq_true rfl) dL_law_1707 ⟨show cells + 0 ≤ 600086 by omega, show slots + 0 ≤ 7301442 by omega⟩ ?_
          refine W.eq (g2 := F0 m 1710 ls [.int (nI (lowN (y1 >>> ((nI 2) &&& 31)) 201))]) rfl ?_
          have l1707 : lowN (y1 >>> ((nI 2) &&& 31)) 201 < 201 := lowN_lt _ (by omega)
          refine lv_istore (lv' := [(30, .int (nI (lowN (y1 >>> ((nI 2) &&& 31)) 201))), (0, .ref b), (1, .ref (ad 0 0)), (2, .ref (ar 0)), (3, .ref (ar 1)), (4, .ref (ar 2)), (5, .ref (ar 3)), (6, .ref (ar 4)), (7, .ref (ar 5)), (8, .ref (ar 6)), (9, .ref (ar 8)), (10, .ref (ar 7)), (11, .ref (ar 9)), (12, .long q12), (14, .int (nI n14)), (15, .int (nI n15)), (16, .int (nI n16)), (17, .int (nI n17)), (18, .int (nI n18)), (19, .int (nI n19)), (21, .int y1), (23, .int (nI w23)), (28, .int (nI a1601_28)), (29, .int (nI a1654_29))]) hx hb dL_law_1710 hl (by decide) rfl (fun ls hl => ?_)
          refine lv_aload_n hx hb dL_law_1712 rfl (lv_at hl 2 rfl) ?_
          refine lv_iconst (v := (nI 0)) hx hb dL_law_1713 (by decide) ?_
          refine lv_iload hx hb dL_law_1714 (lv_at hl 21 rfl) ?_
          refine lv_iload hx hb dL_law_1716 (lv_at hl 0 rfl) ?_
          cases e1718 : (fL_tried0 τ (nI w23) (nI (lowN (y1 >>> ((nI 2) &&& 31)) 201))) with
          | inl En => rw [e1718] at hG; exact absurd (show (none : Option ST) = some st from hG) (fun z => nomatch z)
          | inr x1718 =>
            rw [e1718] at hG
            have hG : (fS1595_B1738 σ τ q12 n14 n15 n16 n17 w23 y1 a1601_28 x1718 (if a1601_28 = 0 then (if a1654_29 = 0 then (-9) else (nI a1654_29)) else (-9))) = some st := hG
            refine xcsB (As := [.ref (ad 0 0), .int (nI 0), .int (nI w23), .int (nI (lowN (y1 >>> ((nI 2) &&& 31)) 201))]) (rest := []) ⟨hx, hb, hml, hown, hts⟩ (mL_tried0 l s.heap.size D E h hlst (lPr ar) τ ad fa hR hC (nI w23) (nI (lowN (y1 >>> ((nI 2) &&& 31)) 201)) ⟨_, e1718⟩) (vx_cwSW 4 hts gL_law_L_tried rfl rfl rfl (by decide +kernel) ⟨Nat.le_of_ble_eq_true rfl, Nat.le_of_ble_eq_true rfl⟩) I hCa hS rfl hl.1 rfl (Nat.le_of_ble_eq_true rfl) dL_law_1718 ⟨show cells + 3 ≤ 600086 by omega, show slots + 18 ≤ 7301442 by omega⟩ (fun v9 hw H locs q9 I hS => ?_)
            obtain ⟨y9, e9, q1, ad_1718, fa_1718, hR, hF, hC, h00_1718⟩ := q9
            have e9 := Sum.inr.inj (e1718.symm.trans e9)
            subst e9
            subst q1
            have hL := hL.keep hF
            try rw [← h00_1718] at hl
            refine W.eq (g2 := F0 m 1721 ls [.int x1718.1]) rfl ?_
            refine lv_iload hx hb dL_law_1721 (lv_at hl 22 rfl) ?_
            have B1738 : ∀ (v1738_0 : Int32), fS1595_B1738 σ τ q12 n14 n15 n16 n17 w23 y1 a1601_28 x1718 v1738_0 = some st → ∀ ls : Array Slot, lv_has ls 39 [(0, .ref b), (1, .ref (ad_1718 0 0)), (2, .ref (ar 0)), (3, .ref (ar 1)), (4, .ref (ar 2)), (5, .ref (ar 3)), (6, .ref (ar 4)), (7, .ref (ar 5)), (8, .ref (ar 6)), (9, .ref (ar 8)), (10, .ref (ar 7)), (11, .ref (ar 9)), (12, .long q12), (14, .int (nI n14)), (15, .int (nI n15)), (16, .int (nI n16)), (17, .int (nI n17)), (18, .int (nI n18)), (19, .int (nI n19)), (23, .int (nI w23)), (28, .int (nI a1601_28)), (30, .int (nI (lowN (y1 >>> ((nI 2) &&& 31)) 201)))] → W p l e room_1 s m #[Value.ref b] below meth c H locs (cells + 3) (slots + 18) Q (F0 m 1738 ls [.int v1738_0, .int x1718.1]) := by
              intro v1738_0 hG ls hl
              unfold fS1595_B1738 at hG
              refine lv_icmp_eq (tgt := 1743) hx hb dL_law_1738 (by decide) (fun c_1738 => ?_) (fun c_1738 => ?_)
              · skip
                rw [if_pos c_1738] at hG
                refine lv_aload hx hb dL_law_1743 (lv_at hl 10 rfl) ?_
                refine lv_bipush (v := (nI 12)) hx hb dL_law_1745 (by decide) ?_
                refine xiald (i := 12) (n := 16) hx hb I (hL.2.1 7 16 (by decide)) (by omega) (by decide) dL_law_1747 ?_
                have f1747 : lI σ 7 12 = nI (lF σ) ∧ lF σ ≤ 3 := hW.2.2.2.2.1
                refine xtop (y := .int (nI (lF σ))) (congrArg Value.int f1747.1) ?_
                have b1747 := f1747.2
                refine lv_istore (lv' := [(31, .int (nI (lF σ))), (0, .ref b), (1, .ref (ad_1718 0 0)), (2, .ref (ar 0)), (3, .ref (ar 1)), (4, .ref (ar 2)), (5, .ref (ar 3)), (6, .ref (ar 4)), (7, .ref (ar 5)), (8, .ref (ar 6)), (9, .ref (ar 8)), (10, .ref (ar 7)), (11, .ref (ar 9)), (12, .long q12), (14, .int (nI n14)), (15, .int (nI n15)), (16, .int (nI n16)), (17, .int (nI n17)), (18, .int (nI n18)), (19, .int (nI n19)), (23, .int (nI w23)), (28, .int (nI a1601_28)), (30, .int (nI (lowN (y1 >>> ((nI 2) &&& 31)) 201)))]) hx hb dL_law_1748 hl (by decide) rfl (fun ls hl => ?_)
                have L1750 : ∀ (n1750 : Nat) (k1750 : Nat) (σ1750 : LT), k1750 + n1750 = 3 → ∀ (ad : Nat → Nat → Nat) (fa : Nat → Nat → Option Nat) (H : Heap) (locs : List Loc) (hw : XW) (cells slots : Nat), XI s.heap.size D E hw s H → RA E σ1750 ar hw → RC E (lPr ar) x1718.2 ad fa hw → va_S (xA s.heap.size) s.heap H locs → LW σ1750 → cells + (60) ≤ K → slots + (600) ≤ Ks → fS1595_L1750 σ τ q12 n14 n15 n16 n17 w23 y1 a1601_28 x1718 n1750 k1750 σ1750 = some st → ∀ ls : Array Slot, lv_has ls 39 [(0, .ref b), (1, .ref (ad 0 0)), (2, .ref (ar 0)), (3, .ref (ar 1)), (4, .ref (ar 2)), (5, .ref (ar 3)), (6, .ref (ar 4)), (7, .ref (ar 5)), (8, .ref (ar 6)), (9, .ref (ar 8)), (10, .ref (ar 7)), (11, .ref (ar 9)), (12, .long q12), (14, .int (nI n14)), (15, .int (nI n15)), (16, .int (nI n16)), (17, .int (nI n17)), (18, .int (nI n18)), (19, .int (nI n19)), (23, .int (nI w23)), (28, .int (nI a1601_28)), (30, .int (nI (lowN (y1 >>> ((nI 2) &&& 31)) 201))), (31, .int (nI k1750))] → W p l e room_1 s m #[Value.ref b] below meth c H locs cells slots Q (F0 m 1750 ls []) := by
                  intro n1750
                  induction n1750 with
                  | zero =>
                    intro k1750 σ1750 hkn ad fa H locs hw cells slots I hL hR hS hW hc1 hc2 hG ls hl
                    have hkN : k1750 = 3 := by omega
                    have hG : (some (σ1750, x1718.2, q12, n14, n15, n16, n17)) = some st := hG
                    refine lv_iload hx hb dL_law_1750 (lv_at hl 22 rfl) ?_
                    refine lv_iconst (v := (nI 3)) hx hb dL_law_1752 (by decide) ?_
                    refine lv_icmp_ge (tgt := 1874) hx hb dL_law_1753 (by decide) (fun _ => ?_) (fun q => absurd (nI_le (Nat.le_of_eq hkN.symm) (by omega)) q)
                    refine lv_goto (tgt := 2016) hx hb dL_law_1874 (by decide) ?_
                    refine lv_goto (tgt := 2560) hx hb dL_law_2016 (by decide) ?_
                    have hst := Option.some.inj (show some (σ1750, x1718.2, q12, n14, n15, n16, n17) = some st from hG)
                    subst hst
                    exact W.widen (by omega) (by omega) (kk _ _ _ _ _ _ I hL hR hS hW hC (lv_sub hl [0, 1, 2, 3, 4, 5, 6, 7, 8, 9, 10, 11, 12, 13, 14, 15, 16, 17, 18] rfl))
                  | succ n1750 ih1750 =>
                    intro k1750 σ1750 hkn ad fa H locs hw cells slots I hL hR hS hW hc1 hc2 hG ls hl
                    have hk : k1750 < 3 := by omega
                    have hG : lbind ((if a1601_28 = 0 then (Sum.inl (if 0 < (lI σ1750 7 (3 * w23 + k1750)) then σ1750 else (if (fL_weight σ1750 n14 w23 k1750) = (0 : Int64) then σ1750 else (lSI (lSL σ1750 8 (3 * w23 + k1750) ((fL_due σ1750 n14 w23 k1750) + (((((fL_weight σ1750 n14 w23 k1750) * (lN (lK σ1750 6 k1750))) / (1000 : Int64)) * (lN (lowN (y1 >>> ((nI 2) &&& 31)) 201))) / (100 : Int64)))) 7 (3 * w23 + k1750) (nI 1))))) else (Sum.inr (some (σ1750, x1718.2, q12, n14, n15, n16, n17))))) (fun q => fS1595_L1750 σ τ q12 n14 n15 n16 n17 w23 y1 a1601_28 x1718 n1750 (k1750 + 1) q) = some st := hG
                    refine lv_iload hx hb dL_law_1750 (lv_at hl 22 rfl) ?_
                    refine lv_iconst (v := (nI 3)) hx hb dL_law_1752 (by decide) ?_
                    refine lv_icmp_ge (tgt := 1874) hx hb dL_law_1753 (by decide) (fun q => absurd q (nI_ge hk (by omega))) (fun _ => ?_)
                    refine lv_iload hx hb dL_law_1756 (lv_at hl 20 rfl) ?_
                    refine lv_if_ne (tgt := 1874) hx hb dL_law_1758 (by decide) (fun c_1758 => ?_) (fun c_1758 => ?_)
                    · skip
                      have c_1758 : ¬ a1601_28 = 0 := fun q => c_1758 ((nI_eq (a := a1601_28) (b := 0) (by omega) (by omega)).mpr q)
                      rw [if_neg c_1758] at hG
                      refine lv_goto (tgt := 2016) hx hb dL_law_1874 (by decide) ?_
                      refine lv_goto (tgt := 2560) hx hb dL_law_2016 (by decide) ?_
                      have hst := Option.some.inj (show some (σ1750, x1718.2, q12, n14, n15, n16, n17) = some st from hG)
                      subst hst
                      exact W.widen (by omega) (by omega) (kk _ _ _ _ _ _ I hL hR hS hW hC (lv_sub hl [0, 1, 2, 3, 4, 5, 6, 7, 8, 9, 10, 11, 12, 13, 14, 15, 16, 17, 18] rfl))
                    · skip
                      have c_1758 : a1601_28 = 0 := (nI_eq (a := a1601_28) (b := 0) (by omega) (by omega)).mp c_1758
                      rw [if_pos c_1758] at hG
                      refine lv_aload hx hb dL_law_1761 (lv_at hl 10 rfl) ?_
                      refine lv_iconst (v := (nI 3)) hx hb dL_law_1763 (by decide) ?_
                      refine lv_iload hx hb dL_law_1764 (lv_at hl 19 rfl) ?_
                      refine lv_imul hx hb dL_law_1766 ?_
                      refine xtop (y := .int (nI (3 * w23))) (congrArg Value.int (pk_mul _ _)) ?_
                      refine lv_iload hx hb dL_law_1767 (lv_at hl 22 rfl) ?_
                      refine lv_iadd hx hb dL_law_1769 ?_
                      refine xtop (y := .int (nI (3 * w23 + k1750))) (congrArg Value.int (nI_add _ _)) ?_
                      refine xiald (i := (3 * w23 + k1750)) (n := 16) hx hb I (hL.2.1 7 16 (by decide)) (by omega) (by decide) dL_law_1770 ?_
                      refine lv_if_gt (tgt := 1868) hx hb dL_law_1771 (by decide) (fun c_1771 => ?_) (fun c_1771 => ?_)
                      · skip
                        rw [if_pos c_1771] at hG
                        refine lv_iinc (v := (nI (k1750 + 1))) (lv' := [(31, .int (nI (k1750 + 1))), (0, .ref b), (1, .ref (ad 0 0)), (2, .ref (ar 0)), (3, .ref (ar 1)), (4, .ref (ar 2)), (5, .ref (ar 3)), (6, .ref (ar 4)), (7, .ref (ar 5)), (8, .ref (ar 6)), (9, .ref (ar 8)), (10, .ref (ar 7)), (11, .ref (ar 9)), (12, .long q12), (14, .int (nI n14)), (15, .int (nI n15)), (16, .int (nI n16)), (17, .int (nI n17)), (18, .int (nI n18)), (19, .int (nI n19)), (23, .int (nI w23)), (28, .int (nI a1601_28)), (30, .int (nI (lowN (y1 >>> ((nI 2) &&& 31)) 201)))]) hx hb dL_law_1868 hl (k := 22) rfl (nI_succ k1750).symm (by decide) rfl (fun ls hl => ?_)
                        refine lv_goto (tgt := 1750) hx hb dL_law_1871 (by decide) ?_
                        exact ih1750 (k1750 + 1) σ1750 (by first | omega | (simp only [lSI_K]; omega)) ad fa H locs hw cells slots I hL hR hS hW (by omega) (by omega) hG ls (lv_sub hl [1, 2, 3, 4, 5, 6, 7, 8, 9, 10, 11, 12, 13, 14, 15, 16, 17, 18, 19, 20, 21, 22, 0] rfl)
                      · skip
                        rw [if_neg c_1771] at hG
                        refine lv_aload_n hx hb dL_law_1774 rfl (lv_at hl 2 rfl) ?_
                        refine lv_iload hx hb dL_law_1775 (lv_at hl 13 rfl) ?_
                        refine lv_aload_n hx hb dL_law_1777 rfl (lv_at hl 3 rfl) ?_
                        refine lv_aload hx hb dL_law_1778 (lv_at hl 4 rfl) ?_
                        refine lv_iload hx hb dL_law_1780 (lv_at hl 19 rfl) ?_
                        refine lv_iload hx hb dL_law_1782 (lv_at hl 22 rfl) ?_
                        refine xcsR (As := [.ref (ar 0), .int (nI n14), .ref (ar 1), .ref (ar 2), .int (nI w23), .int (nI k1750)]) (rest := []) (v := some (.long (fL_weight σ1750 n14 w23 k1750))) ⟨hx, hb, hml, hown, hts⟩ (mL_weight l s.heap.size D E hw σ1750 ar hL hW n14 w23 k1750 (by first | assumption | omega) (by first | assumption | omega) (by first | assumption | omega)) (va_cwS 6 hts gL_law_L_weight rfl rfl rfl (by decide +kernel) ⟨Nat.le_of_ble_eq_true rfl, Nat.le_of_ble_eq_true rfl⟩) I rfl hl.1 rfl (Nat.le_of_ble_eq_true rfl) dL_law_1784 ⟨show cells + 0 ≤ 600086 by omega, show slots + 0 ≤ 7301442 by omega⟩ ?_
                        refine W.eq (g2 := F0 m 1787 ls [.long (fL_weight σ1750 n14 w23 k1750)]) rfl ?_
                        refine lv_lconst (v := (0 : Int64)) hx hb dL_law_1787 rfl ?_
                        refine xl_ne (tgt := 1795) hx hb dL_law_1788 dL_law_1789 (by decide) (fun c_1788 => ?_) (fun c_1788 => ?_)
                        · skip
                          rw [if_neg c_1788] at hG
                          refine lv_aload hx hb dL_law_1795 (lv_at hl 9 rfl) ?_
                          refine lv_iconst (v := (nI 3)) hx hb dL_law_1797 (by decide) ?_
                          refine lv_iload hx hb dL_law_1798 (lv_at hl 19 rfl) ?_
                          refine lv_imul hx hb dL_law_1800 ?_
                          refine xtop (y := .int (nI (3 * w23))) (congrArg Value.int (pk_mul _ _)) ?_
                          refine lv_iload hx hb dL_law_1801 (lv_at hl 22 rfl) ?_
                          refine lv_iadd hx hb dL_law_1803 ?_
                          refine xtop (y := .int (nI (3 * w23 + k1750))) (congrArg Value.int (nI_add _ _)) ?_
                          refine lv_aload_n hx hb dL_law_1804 rfl (lv_at hl 2 rfl) ?_
                          refine lv_iload hx hb dL_law_1805 (lv_at hl 13 rfl) ?_
                          refine lv_aload_n hx hb dL_law_1807 rfl (lv_at hl 3 rfl) ?_
                          refine lv_aload hx hb dL_law_1808 (lv_at hl 4 rfl) ?_
                          refine lv_aload hx hb dL_law_1810 (lv_at hl 8 rfl) ?_
                          refine lv_aload hx hb dL_law_1812 (lv_at hl 9 rfl) ?_
                          refine lv_aload hx hb dL_law_1814 (lv_at hl 10 rfl) ?_
                          refine lv_iload hx hb dL_law_1816 (lv_at hl 19 rfl) ?_
                          refine lv_iload hx hb dL_law_1818 (lv_at hl 22 rfl) ?_
                          refine xcsR (As := [.ref (ar 0), .int (nI n14), .ref (ar 1), .ref (ar 2), .ref (ar 6), .ref (ar 8), .ref (ar 7), .int (nI w23), .int (nI k1750)]) (rest := [.int (nI (3 * w23 + k1750)), .ref (ar 8)]) (v := some (.long (fL_due σ1750 n14 w23 k1750))) ⟨hx, hb, hml, hown, hts⟩ (mL_due l s.heap.size D E hw σ1750 ar hL hW n14 w23 k1750 (by first | assumption | omega) (by first | assumption | omega) (by first | assumption | omega)) (va_cwS 9 hts gL_law_L_due rfl rfl rfl (by decide +kernel) ⟨Nat.le_of_ble_eq_true rfl, Nat.le_of_ble_eq_true rfl⟩) I rfl hl.1 rfl (Nat.le_of_ble_eq_true rfl) dL_law_1820 ⟨show cells + 0 ≤ 600086 by omega, show slots + 0 ≤ 7301442 by omega⟩ ?_
                          refine W.eq (g2 := F0 m 1823 ls [.long (fL_due σ1750 n14 w23 k1750), .int (nI (3 * w23 + k1750)), .ref (ar 8)]) rfl ?_
                          refine lv_aload_n hx hb dL_law_1823 rfl (lv_at hl 2 rfl) ?_
                          refine lv_iload hx hb dL_law_1824 (lv_at hl 13 rfl) ?_
                          refine lv_aload_n hx hb dL_law_1826 rfl (lv_at hl 3 rfl) ?_
                          refine lv_aload hx hb dL_law_1827 (lv_at hl 4 rfl) ?_
                          refine lv_iload hx hb dL_law_1829 (lv_at hl 19 rfl) ?_
                          refine lv_iload hx hb dL_law_1831 (lv_at hl 22 rfl) ?_
                          refine xcsR (As := [.ref (ar 0), .int (nI n14), .ref (ar 1), .ref (ar 2), .int (nI w23), .int (nI k1750)]) (rest := [.long (fL_due σ1750 n14 w23 k1750), .int (nI (3 * w23 + k1750)), .ref (ar 8)]) (v := some (.long (fL_weight σ1750 n14 w23 k1750))) ⟨hx, hb, hml, hown, hts⟩ (mL_weight l s.heap.size D E hw σ1750 ar hL hW n14 w23 k1750 (by first | assumption | omega) (by first | assumption | omega) (by first | assumption | omega)) (va_cwS 6 hts gL_law_L_weight rfl rfl rfl (by decide +kernel) ⟨Nat.le_of_ble_eq_true rfl, Nat.le_of_ble_eq_true rfl⟩) I rfl hl.1 rfl (Nat.le_of_ble_eq_true rfl) dL_law_1833 ⟨show cells + 0 ≤ 600086 by omega, show slots + 0 ≤ 7301442 by omega⟩ ?_
                          refine W.eq (g2 := F0 m 1836 ls [.long (fL_weight σ1750 n14 w23 k1750), .long (fL_due σ1750 n14 w23 k1750), .int (nI (3 * w23 + k1750)), .ref (ar 8)]) rfl ?_
                          refine lv_aload hx hb dL_law_1836 (lv_at hl 8 rfl) ?_
                          refine lv_iload hx hb dL_law_1838 (lv_at hl 22 rfl) ?_
                          refine xiald (i := k1750) (n := 6) hx hb I (hL.1 6 6 (by decide)) (by omega) (by decide) dL_law_1840 ?_
                          have g1840 : lK σ1750 6 k1750 < 1073741824 := hW.2.2.2.2.2.1 6 k1750
                          refine lv_i2l (v := (lN (lK σ1750 6 k1750))) hx hb dL_law_1841 (nI_l (by omega)) ?_
                          refine lv_lmul hx hb dL_law_1842 ?_
                          refine lv_ldc2 (v := (1000 : Int64)) hx hb hown (hts _ (List.mem_of_getElem? (i := 10) rfl)) dL_law_1843 ?_
                          refine lv_ldiv hx hb dL_law_1846 (by decide) ?_
                          refine lv_iload hx hb dL_law_1847 (lv_at hl 21 rfl) ?_
                          refine lv_i2l (v := (lN (lowN (y1 >>> ((nI 2) &&& 31)) 201))) hx hb dL_law_1849 (nI_l (by omega)) ?_
                          refine lv_lmul hx hb dL_law_1850 ?_
                          refine lv_ldc2 (v := (100 : Int64)) hx hb hown (hts _ (List.mem_of_getElem? (i := 11) rfl)) dL_law_1851 ?_
                          refine lv_ldiv hx hb dL_law_1854 (by decide) ?_
                          refine lv_ladd hx hb dL_law_1855 ?_
                          refine xlS (x := ((fL_due σ1750 n14 w23 k1750) + (((((fL_weight σ1750 n14 w23 k1750) * (lN (lK σ1750 6 k1750))) / (1000 : Int64)) * (lN (lowN (y1 >>> ((nI 2) &&& 31)) 201))) / (100 : Int64)))) (i := (3 * w23 + k1750)) (n := 9) 8 hx hb I hS hL hR (by decide) (by omega) (by decide) dL_law_1856 (fun H locs hw I hL hR hS => ?_)
                          have hW : LW (lSL σ1750 8 (3 * w23 + k1750) ((fL_due σ1750 n14 w23 k1750) + (((((fL_weight σ1750 n14 w23 k1750) * (lN (lK σ1750 6 k1750))) / (1000 : Int64)) * (lN (lowN (y1 >>> ((nI 2) &&& 31)) 201))) / (100 : Int64)))) := hW.sL 8 (3 * w23 + k1750) ((fL_due σ1750 n14 w23 k1750) + (((((fL_weight σ1750 n14 w23 k1750) * (lN (lK σ1750 6 k1750))) / (1000 : Int64)) * (lN (lowN (y1 >>> ((nI 2) &&& 31)) 201))) / (100 : Int64)))
                          refine lv_aload hx hb dL_law_1857 (lv_at hl 10 rfl) ?_
                          refine lv_iconst (v := (nI 3)) hx hb dL_law_1859 (by decide) ?_
                          refine lv_iload hx hb dL_law_1860 (lv_at hl 19 rfl) ?_
                          refine lv_imul hx hb dL_law_1862 ?_
                          refine xtop (y := .int (nI (3 * w23))) (congrArg Value.int (pk_mul _ _)) ?_
                          refine lv_iload hx hb dL_law_1863 (lv_at hl 22 rfl) ?_
                          refine lv_iadd hx hb dL_law_1865 ?_
                          refine xtop (y := .int (nI (3 * w23 + k1750))) (congrArg Value.int (nI_add _ _)) ?_
                          refine lv_iconst (v := (nI 1)) hx hb dL_law_1866 (by decide) ?_
                          refine xiS (x := (nI 1)) (i := (3 * w23 + k1750)) (n := 16) 7 hx hb I hS hL hR (by decide) (by omega) (by decide) dL_law_1867 (fun H locs hw I hL hR hS => ?_)
                          have hW : LW (lSI (lSL σ1750 8 (3 * w23 + k1750) ((fL_due σ1750 n14 w23 k1750) + (((((fL_weight σ1750 n14 w23 k1750) * (lN (lK σ1750 6 k1750))) / (1000 : Int64)) * (lN (lowN (y1 >>> ((nI 2) &&& 31)) 201))) / (100 : Int64)))) 7 (3 * w23 + k1750) (nI 1)) := hW.sI 7 (3 * w23 + k1750) (nI 1) (by omega)
                          refine lv_iinc (v := (nI (k1750 + 1))) (lv' := [(31, .int (nI (k1750 + 1))), (0, .ref b), (1, .ref (ad 0 0)), (2, .ref (ar 0)), (3, .ref (ar 1)), (4, .ref (ar 2)), (5, .ref (ar 3)), (6, .ref (ar 4)), (7, .ref (ar 5)), (8, .ref (ar 6)), (9, .ref (ar 8)), (10, .ref (ar 7)), (11, .ref (ar 9)), (12, .long q12), (14, .int (nI n14)), (15, .int (nI n15)), (16, .int (nI n16)), (17, .int (nI n17)), (18, .int (nI n18)), (19, .int (nI n19)), (23, .int (nI w23)), (28, .int (nI a1601_28)), (30, .int (nI (lowN (y1 >>> ((nI 2) &&& 31)) 201)))]) hx hb dL_law_1868 hl (k := 22) rfl (nI_succ k1750).symm (by decide) rfl (fun ls hl => ?_)
                          refine lv_goto (tgt := 1750) hx hb dL_law_1871 (by decide) ?_
                          exact ih1750 (k1750 + 1) (lSI (lSL σ1750 8 (3 * w23 + k1750) ((fL_due σ1750 n14 w23 k1750) + (((((fL_weight σ1750 n14 w23 k1750) * (lN (lK σ1750 6 k1750))) / (1000 : Int64)) * (lN (lowN (y1 >>> ((nI 2) &&& 31)) 201))) / (100 : Int64)))) 7 (3 * w23 + k1750) (nI 1)) (by first | omega | (simp only [lSI_K]; omega)) ad fa H locs hw cells slots I hL hR hS hW (by omega) (by omega) hG ls (lv_sub hl [1, 2, 3, 4, 5, 6, 7, 8, 9, 10, 11, 12, 13, 14, 15, 16, 17, 18, 19, 20, 21, 22, 0] rfl)
                        · skip
                          rw [if_pos c_1788] at hG
                          refine lv_goto (tgt := 1868) hx hb dL_law_1792 (by decide) ?_
                          refine lv_iinc (v := (nI (k1750 + 1))) (lv' := [(31, .int (nI (k1750 + 1))), (0, .ref b), (1, .ref (ad 0 0)), (2, .ref (ar 0)), (3, .ref (ar 1)), (4, .ref (ar 2)), (5, .ref (ar 3)), (6, .ref (ar 4)), (7, .ref (ar 5)), (8, .ref (ar 6)), (9, .ref (ar 8)), (10, .ref (ar 7)), (11, .ref (ar 9)), (12, .long q12), (14, .int (nI n14)), (15, .int (nI n15)), (16, .int (nI n16)), (17, .int (nI n17)), (18, .int (nI n18)), (19, .int (nI n19)), (23, .int (nI w23)), (28, .int (nI a1601_28)), (30, .int (nI (lowN (y1 >>> ((nI 2) &&& 31)) 201)))]) hx hb dL_law_1868 hl (k := 22) rfl (nI_succ k1750).symm (by decide) rfl (fun ls hl => ?_)
                          refine lv_goto (tgt := 1750) hx hb dL_law_1871 (by decide) ?_
                          exact ih1750 (k1750 + 1) σ1750 (by first | omega | (simp only [lSI_K]; omega)) ad fa H locs hw cells slots I hL hR hS hW (by omega) (by omega) hG ls (lv_sub hl [1, 2, 3, 4, 5, 6, 7, 8, 9, 10, 11, 12, 13, 14, 15, 16, 17, 18, 19, 20, 21, 22, 0] rfl)
                exact L1750 (3 - lF σ) (lF σ) σ (by omega) ad_1718 fa_1718 H locs hw (cells + 3) (slots + 18) I hL hR hS hW (by omega) (by omega) hG ls (lv_sub hl [1, 2, 3, 4, 5, 6, 7, 8, 9, 10, 11, 12, 13, 14, 15, 16, 17, 18, 19, 20, 21, 22, 0] rfl)
              · skip
                rw [if_neg c_1738] at hG
                refine lv_iconst (v := (nI 0)) hx hb dL_law_1741 (by decide) ?_
                exact absurd (show (none : Option ST) = some st from hG) (fun z => nomatch z)
            refine lv_if_ne (tgt := 1731) hx hb dL_law_1723 (by decide) (fun c_1723 => ?_) (fun c_1723 => ?_)
            · skip
              have c_1723 : ¬ a1601_28 = 0 := fun q => c_1723 ((nI_eq (a := a1601_28) (b := 0) (by omega) (by omega)).mpr q)
              rw [if_neg c_1723] at hG
              refine lv_bipush (v := (-9)) hx hb dL_law_1731 (by decide) ?_
              refine lv_goto (tgt := 1738) hx hb dL_law_1733 (by decide) ?_
              exact B1738 (-9) hG ls (lv_sub hl [1, 2, 3, 4, 5, 6, 7, 8, 9, 10, 11, 12, 13, 14, 15, 16, 17, 18, 19, 21, 22, 0] rfl)
            · skip
              have c_1723 : a1601_28 = 0 := (nI_eq (a := a1601_28) (b := 0) (by omega) (by omega)).mp c_1723
              rw [if_pos c_1723] at hG
              refine lv_iload hx hb dL_law_1726 (lv_at hl 23 rfl) ?_
              refine lv_if_ne (tgt := 1736) hx hb dL_law_1728 (by decide) (fun c_1728 => ?_) (fun c_1728 => ?_)
              · skip
                have c_1728 : ¬ a1654_29 = 0 := fun q => c_1728 ((nI_eq (a := a1654_29) (b := 0) (by omega) (by omega)).mpr q)
                rw [if_neg c_1728] at hG
                refine lv_iload hx hb dL_law_1736 (lv_at hl 23 rfl) ?_
                exact B1738 (nI a1654_29) hG ls (lv_sub hl [1, 2, 3, 4, 5, 6, 7, 8, 9, 10, 11, 12, 13, 14, 15, 16, 17, 18, 19, 21, 22, 0] rfl)
              · skip
                have c_1728 : a1654_29 = 0 := (nI_eq (a := a1654_29) (b := 0) (by omega) (by omega)).mp c_1728
                rw [if_pos c_1728] at hG
                refine lv_bipush (v := (-9)) hx hb dL_law_1731 (by decide) ?_
                refine lv_goto (tgt := 1738) hx hb dL_law_1733 (by decide) ?_
                exact B1738 (-9) hG ls (lv_sub hl [1, 2, 3, 4, 5, 6, 7, 8, 9, 10, 11, 12, 13, 14, 15, 16, 17, 18, 19, 21, 22, 0] rfl)
        | succ n1654 ih1654 =>
          intro k1654 a1654_29 hkn i1654_0 hG ls hl
          have hk : k1654 < 3 := by omega
          have hG : lseq ((if (lI σ 7 (3 * w23 + k1654)) = 0 then (if (fL_weight σ n14 w23 k1654) ≤ (0 : Int64) then a1654_29 else a1654_29 + 1) else a1654_29)) (fun q => fS1595_L1654 σ τ q12 n14 n15 n16 n17 w23 y1 a1601_28 n1654 (k1654 + 1) q) = some st := hG
          refine lv_iload hx hb dL_law_1654 (lv_at hl 23 rfl) ?_
          refine lv_iconst (v := (nI 3)) hx hb dL_law_1656 (by decide) ?_
          refine lv_icmp_ge (tgt := 1700) hx hb dL_law_1657 (by decide) (fun q => absurd q (nI_ge hk (by omega))) (fun _ => ?_)
          refine lv_aload hx hb dL_law_1660 (lv_at hl 10 rfl) ?_
          refine lv_iconst (v := (nI 3)) hx hb dL_law_1662 (by decide) ?_
          refine lv_iload hx hb dL_law_1663 (lv_at hl 20 rfl) ?_
          refine lv_imul hx hb dL_law_1665 ?_
          refine xtop (y := .int (nI (3 * w23))) (congrArg Value.int (pk_mul _ _)) ?_
          refine lv_iload hx hb dL_law_1666 (lv_at hl 23 rfl) ?_
          refine lv_iadd hx hb dL_law_1668 ?_
          refine xtop (y := .int (nI (3 * w23 + k1654))) (congrArg Value.int (nI_add _ _)) ?_
          refine xiald (i := (3 * w23 + k1654)) (n := 16) hx hb I (hL.2.1 7 16 (by decide)) (by omega) (by decide) dL_law_1669 ?_
          refine lv_if_ne (tgt := 1694) hx hb dL_law_1670 (by decide) (fun c_1670 => ?_) (fun c_1670 => ?_)
          · skip
            rw [if_neg c_1670] at hG
            refine lv_iinc (v := (nI (k1654 + 1))) (lv' := [(30, .int (nI (k1654 + 1))), (0, .ref b), (1, .ref (ad 0 0)), (2, .ref (ar 0)), (3, .ref (ar 1)), (4, .ref (ar 2)), (5, .ref (ar 3)), (6, .ref (ar 4)), (7, .ref (ar 5)), (8, .ref (ar 6)), (9, .ref (ar 8)), (10, .ref (ar 7)), (11, .ref (ar 9)), (12, .long q12), (14, .int (nI n14)), (15, .int (nI n15)), (16, .int (nI n16)), (17, .int (nI n17)), (18, .int (nI n18)), (19, .int (nI n19)), (21, .int y1), (23, .int (nI w23)), (28, .int (nI a1601_28)), (29, .int (nI a1654_29))]) hx hb dL_law_1694 hl (k := 23) rfl (nI_succ k1654).symm (by decide) rfl (fun ls hl => ?_)
            refine lv_goto (tgt := 1654) hx hb dL_law_1697 (by decide) ?_
            exact ih1654 (k1654 + 1) a1654_29 (by first | omega | (simp only [lSI_K]; omega)) (by first | assumption | omega) hG ls (lv_sub hl [1, 2, 3, 4, 5, 6, 7, 8, 9, 10, 11, 12, 13, 14, 15, 16, 17, 18, 19, 20, 21, 22, 23, 0] rfl)
          · skip
            rw [if_pos c_1670] at hG
            refine lv_aload_n hx hb dL_law_1673 rfl (lv_at hl 2 rfl) ?_
            refine lv_iload hx hb dL_law_1674 (lv_at hl 13 rfl) ?_
            refine lv_aload_n hx hb dL_law_1676 rfl (lv_at hl 3 rfl) ?_
            refine lv_aload hx hb dL_law_1677 (lv_at hl 4 rfl) ?_
            refine lv_iload hx hb dL_law_1679 (lv_at hl 20 rfl) ?_
            refine lv_iload hx hb dL_law_1681 (lv_at hl 23 rfl) ?_
            refine xcsR (As := [.ref (ar 0), .int (nI n14), .ref (ar 1), .ref (ar 2), .int (nI w23), .int (nI k1654)]) (rest := []) (v := some (.long (fL_weight σ n14 w23 k1654))) ⟨hx, hb, hml, hown, hts⟩ (mL_weight l s.heap.size D E h σ ar hL hW n14 w23 k1654 (by first | assumption | omega) (by first | assumption | omega) (by first | assumption | omega)) (va_cwS 6 hts gL_law_L_weight rfl rfl rfl (by decide +kernel) ⟨Nat.le_of_ble_eq_true rfl, Nat.le_of_ble_eq_true rfl⟩) I rfl hl.1 rfl (Nat.le_of_ble_eq_true rfl) dL_law_1683 ⟨show cells + 0 ≤ 600086 by omega, show slots + 0 ≤ 7301442 by omega⟩ ?_
            refine W.eq (g2 := F0 m 1686 ls [.long (fL_weight σ n14 w23 k1654)]) rfl ?_
            refine lv_lconst (v := (0 : Int64)) hx hb dL_law_1686 rfl ?_
            refine xl_le (tgt := 1694) hx hb dL_law_1687 dL_law_1688 (by decide) (fun c_1687 => ?_) (fun c_1687 => ?_)
            · skip
              rw [if_pos c_1687] at hG
              refine lv_iinc (v := (nI (k1654 + 1))) (lv' := [(30, .int (nI (k1654 + 1))), (0, .ref b), (1, .ref (ad 0 0)), (2, .ref (ar 0)), (3, .ref (ar 1)), (4, .ref (ar 2)), (5, .ref (ar 3)), (6, .ref (ar 4)), (7, .ref (ar 5)), (8, .ref (ar 6)), (9, .ref (ar 8)), (10, .ref (ar 7)), (11, .ref (ar 9)), (12, .long q12), (14, .int (nI n14)), (15, .int (nI n15)), (16, .int (nI n16)), (17, .int (nI n17)), (18, .int (nI n18)), (19, .int (nI n19)), (21, .int y1), (23, .int (nI w23)), (28, .int (nI a1601_28)), (29, .int (nI a1654_29))]) hx hb dL_law_1694 hl (k := 23) rfl (nI_succ k1654).symm (by decide) rfl (fun ls hl => ?_)
              refine lv_goto (tgt := 1654) hx hb dL_law_1697 (by decide) ?_
              exact ih1654 (k1654 + 1) a1654_29 (by first | omega | (simp only [lSI_K]; omega)) (by first | assumption | omega) hG ls (lv_sub hl [1, 2, 3, 4, 5, 6, 7, 8, 9, 10, 11, 12, 13, 14, 15, 16, 17, 18, 19, 20, 21, 22, 23, 0] rfl)
            · skip
              rw [if_neg c_1687] at hG
              refine lv_iinc (v := (nI (a1654_29 + 1))) (lv' := [(29, .int (nI (a1654_29 + 1))), (0, .ref b), (1, .ref (ad 0 0)), (2, .ref (ar 0)), (3, .ref (ar 1)), (4, .ref (ar 2)), (5, .ref (ar 3)), (6, .ref (ar 4)), (7, .ref (ar 5)), (8, .ref (ar 6)), (9, .ref (ar 8)), (10, .ref (ar 7)), (11, .ref (ar 9)), (12, .long q12), (14, .int (nI n14)), (15, .int (nI n15)), (16, .int (nI n16)), (17, .int (nI n17)), (18, .int (nI n18)), (19, .int (nI n19)), (21, .int y1), (23, .int (nI w23)), (28, .int (nI a1601_28)), (30, .int (nI k1654))]) hx hb dL_law_1691 hl (k := 22) rfl (nI_succ a1654_29).symm (by decide) rfl (fun ls hl => ?_)
              refine lv_iinc (v := (nI (k1654 + 1))) (lv' := [(30, .int (nI (k1654 + 1))), (29, .int (nI (a1654_29 + 1))), (0, .ref b), (1, .ref (ad 0 0)), (2, .ref (ar 0)), (3, .ref (ar 1)), (4, .ref (ar 2)), (5, .ref (ar 3)), (6, .ref (ar 4)), (7, .ref (ar 5)), (8, .ref (ar 6)), (9, .ref (ar 8)), (10, .ref (ar 7)), (11, .ref (ar 9)), (12, .long q12), (14, .int (nI n14)), (15, .int (nI n15)), (16, .int (nI n16)), (17, .int (nI n17)), (18, .int (nI n18)), (19, .int (nI n19)), (21, .int y1), (23, .int (nI w23)), (28, .int (nI a1601_28))]) hx hb dL_law_1694 hl (k := 23) rfl (nI_succ k1654).symm (by decide) rfl (fun ls hl => ?_)
              refine lv_goto (tgt := 1654) hx hb dL_law_1697 (by decide) ?_
              exact ih1654 (k1654 + 1) (a1654_29 + 1) (by first | omega | (simp only [lSI_K]; omega)) (by first | assumption | omega) hG ls (lv_sub hl [2, 3, 4, 5, 6, 7, 8, 9, 10, 11, 12, 13, 14, 15, 16, 17, 18, 19, 20, 21, 22, 23, 1, 0] rfl)
      exact L1654 (3 - lF σ) (lF σ) 0 (by omega) (by first | assumption | omega) hG ls (lv_sub hl [2, 3, 4, 5, 6, 7, 8, 9, 10, 11, 12, 13, 14, 15, 16, 17, 18, 19, 20, 21, 22, 23, 1, 0] rfl)
    | succ n1601 ih1601 =>
      intro k1601 a1601_28 hkn i1601_0 hG ls hl
      have hk : k1601 < n14 := by omega
      have hG : lseq ((if lK σ 1 (lK σ 0 (3 * k1601)) = w23 then (if lK σ 0 (3 * k1601 + 2) = 9999 then 1 else a1601_28) else a1601_28)) (fun q => fS1595_L1601 σ τ q12 n14 n15 n16 n17 w23 y1 n1601 (k1601 + 1) q) = some st := hG
      refine lv_iload hx hb dL_law_1601 (lv_at hl 22 rfl) ?_
      refine lv_iload hx hb dL_law_1603 (lv_at hl 13 rfl) ?_
      refine lv_icmp_ge (tgt := 1644) hx hb dL_law_1605 (by decide) (fun q => absurd q (nI_ge hk (by omega))) (fun _ => ?_)
      refine lv_aload_n hx hb dL_law_1608 rfl (lv_at hl 3 rfl) ?_
      refine lv_aload_n hx hb dL_law_1609 rfl (lv_at hl 2 rfl) ?_
      refine lv_iconst (v := (nI 3)) hx hb dL_law_1610 (by decide) ?_
      refine lv_iload hx hb dL_law_1611 (lv_at hl 22 rfl) ?_
      refine lv_imul hx hb dL_law_1613 ?_
      refine xtop (y := .int (nI (3 * k1601))) (congrArg Value.int (pk_mul _ _)) ?_
      refine xiald (i := (3 * k1601)) (n := 40) hx hb I (hL.1 0 40 (by decide)) (by omega) (by decide) dL_law_1614 ?_
      have g1614 : lK σ 0 (3 * k1601) < 1073741824 := hW.2.2.2.2.2.1 0 (3 * k1601)
      have b1614 : lK σ 0 (3 * k1601) < 5 := hW.1 k1601
      refine xiald (i := (lK σ 0 (3 * k1601))) (n := 16) hx hb I (hL.1 1 16 (by decide)) (by omega) (by decide) dL_law_1615 ?_
      have g1615 : lK σ 1 (lK σ 0 (3 * k1601)) < 1073741824 := hW.2.2.2.2.2.1 1 (lK σ 0 (3 * k1601))
      have b1615 : lK σ 1 (lK σ 0 (3 * k1601)) < 3 := hW.2.1 (lK σ 0 (3 * k1601)) (by omega)
      refine lv_iload hx hb dL_law_1616 (lv_at hl 20 rfl) ?_
      refine lv_icmp_ne (tgt := 1638) hx hb dL_law_1618 (by decide) (fun c_1618 => ?_) (fun c_1618 => ?_)
      · skip
        have c_1618 : ¬ lK σ 1 (lK σ 0 (3 * k1601)) = w23 := fun q => c_1618 ((nI_eq (a := (lK σ 1 (lK σ 0 (3 * k1601)))) (b := w23) (by omega) (by omega)).mpr q)
        rw [if_neg c_1618] at hG
        refine lv_iinc (v := (nI (k1601 + 1))) (lv' := [(29, .int (nI (k1601 + 1))), (0, .ref b), (1, .ref (ad 0 0)), (2, .ref (ar 0)), (3, .ref (ar 1)), (4, .ref (ar 2)), (5, .ref (ar 3)), (6, .ref (ar 4)), (7, .ref (ar 5)), (8, .ref (ar 6)), (9, .ref (ar 8)), (10, .ref (ar 7)), (11, .ref (ar 9)), (12, .long q12), (14, .int (nI n14)), (15, .int (nI n15)), (16, .int (nI n16)), (17, .int (nI n17)), (18, .int (nI n18)), (19, .int (nI n19)), (21, .int y1), (23, .int (nI w23)), (28, .int (nI a1601_28))]) hx hb dL_law_1638 hl (k := 22) rfl (nI_succ k1601).symm (by decide) rfl (fun ls hl => ?_)
        refine lv_goto (tgt := 1601) hx hb dL_law_1641 (by decide) ?_
        exact ih1601 (k1601 + 1) a1601_28 (by first | omega | (simp only [lSI_K]; omega)) (by first | assumption | omega) hG ls (lv_sub hl [1, 2, 3, 4, 5, 6, 7, 8, 9, 10, 11, 12, 13, 14, 15, 16, 17, 18, 19, 20, 21, 22, 0] rfl)
      · skip
        have c_1618 : lK σ 1 (lK σ 0 (3 * k1601)) = w23 := (nI_eq (a := (lK σ 1 (lK σ 0 (3 * k1601)))) (b := w23) (by omega) (by omega)).mp c_1618
        rw [if_pos c_1618] at hG
        refine lv_aload_n hx hb dL_law_1621 rfl (lv_at hl 2 rfl) ?_
        refine lv_iconst (v := (nI 3)) hx hb dL_law_1622 (by decide) ?_
        refine lv_iload hx hb dL_law_1623 (lv_at hl 22 rfl) ?_
        refine lv_imul hx hb dL_law_1625 ?_
        refine xtop (y := .int (nI (3 * k1601))) (congrArg Value.int (pk_mul _ _)) ?_
        refine lv_iconst (v := (nI 2)) hx hb dL_law_1626 (by decide) ?_
        refine lv_iadd hx hb dL_law_1627 ?_
        refine xtop (y := .int (nI (3 * k1601 + 2))) (congrArg Value.int (nI_add _ _)) ?_
        refine xiald (i := (3 * k1601 + 2)) (n := 40) hx hb I (hL.1 0 40 (by decide)) (by omega) (by decide) dL_law_1628 ?_
        have g1628 : lK σ 0 (3 * k1601 + 2) < 1073741824 := hW.2.2.2.2.2.1 0 (3 * k1601 + 2)
        refine lv_sipush (v := (nI 9999)) hx hb dL_law_1629 (by decide) ?_
        refine lv_icmp_ne (tgt := 1638) hx hb dL_law_1632 (by decide) (fun c_1632 => ?_) (fun c_1632 => ?_)
        · skip
          have c_1632 : ¬ lK σ 0 (3 * k1601 + 2) = 9999 := fun q => c_1632 ((nI_eq (a := (lK σ 0 (3 * k1601 + 2))) (b := 9999) (by omega) (by omega)).mpr q)
          rw [if_neg c_1632] at hG
          refine lv_iinc (v := (nI (k1601 + 1))) (lv' := [(29, .int (nI (k1601 + 1))), (0, .ref b), (1, .ref (ad 0 0)), (2, .ref (ar 0)), (3, .ref (ar 1)), (4, .ref (ar 2)), (5, .ref (ar 3)), (6, .ref (ar 4)), (7, .ref (ar 5)), (8, .ref (ar 6)), (9, .ref (ar 8)), (10, .ref (ar 7)), (11, .ref (ar 9)), (12, .long q12), (14, .int (nI n14)), (15, .int (nI n15)), (16, .int (nI n16)), (17, .int (nI n17)), (18, .int (nI n18)), (19, .int (nI n19)), (21, .int y1), (23, .int (nI w23)), (28, .int (nI a1601_28))]) hx hb dL_law_1638 hl (k := 22) rfl (nI_succ k1601).symm (by decide) rfl (fun ls hl => ?_)
          refine lv_goto (tgt := 1601) hx hb dL_law_1641 (by decide) ?_
          exact ih1601 (k1601 + 1) a1601_28 (by first | omega | (simp only [lSI_K]; omega)) (by first | assumption | omega) hG ls (lv_sub hl [1, 2, 3, 4, 5, 6, 7, 8, 9, 10, 11, 12, 13, 14, 15, 16, 17, 18, 19, 20, 21, 22, 0] rfl)
        · skip
          have c_1632 : lK σ 0 (3 * k1601 + 2) = 9999 := (nI_eq (a := (lK σ 0 (3 * k1601 + 2))) (b := 9999) (by omega) (by omega)).mp c_1632
          rw [if_pos c_1632] at hG
          refine lv_iconst (v := (nI 1)) hx hb dL_law_1635 (by decide) ?_
          refine lv_istore (lv' := [(28, .int (nI 1)), (0, .ref b), (1, .ref (ad 0 0)), (2, .ref (ar 0)), (3, .ref (ar 1)), (4, .ref (ar 2)), (5, .ref (ar 3)), (6, .ref (ar 4)), (7, .ref (ar 5)), (8, .ref (ar 6)), (9, .ref (ar 8)), (10, .ref (ar 7)), (11, .ref (ar 9)), (12, .long q12), (14, .int (nI n14)), (15, .int (nI n15)), (16, .int (nI n16)), (17, .int (nI n17)), (18, .int (nI n18)), (19, .int (nI n19)), (21, .int y1), (23, .int (nI w23)), (29, .int (nI k1601))]) hx hb dL_law_1636 hl (by decide) rfl (fun ls hl => ?_)
          refine lv_iinc (v := (nI (k1601 + 1))) (lv' := [(29, .int (nI (k1601 + 1))), (28, .int (nI 1)), (0, .ref b), (1, .ref (ad 0 0)), (2, .ref (ar 0)), (3, .ref (ar 1)), (4, .ref (ar 2)), (5, .ref (ar 3)), (6, .ref (ar 4)), (7, .ref (ar 5)), (8, .ref (ar 6)), (9, .ref (ar 8)), (10, .ref (ar 7)), (11, .ref (ar 9)), (12, .long q12), (14, .int (nI n14)), (15, .int (nI n15)), (16, .int (nI n16)), (17, .int (nI n17)), (18, .int (nI n18)), (19, .int (nI n19)), (21, .int y1), (23, .int (nI w23))]) hx hb dL_law_1638 hl (k := 22) rfl (nI_succ k1601).symm (by decide) rfl (fun ls hl => ?_)
          refine lv_goto (tgt := 1601) hx hb dL_law_1641 (by decide) ?_
          exact ih1601 (k1601 + 1) 1 (by first | omega | (simp only [lSI_K]; omega)) (by first | assumption | omega) hG ls (lv_sub hl [2, 3, 4, 5, 6, 7, 8, 9, 10, 11, 12, 13, 14, 15, 16, 17, 18, 19, 20, 21, 22, 1, 0] rfl)
  exact L1601 n14 0 0 (by omega) (by first | assumption | omega) hG ls (lv_sub hl [2, 3, 4, 5, 6, 7, 8, 9, 10, 11, 12, 13, 14, 15, 16, 17, 18, 19, 20, 22, 21, 1, 0] rfl)

def fS1887_B1929 (σ : LT) (τ : CT) (q12 : Int64) (n14 : Nat) (n15 : Nat) (n16 : Nat) (n17 : Nat) (w23 : Nat) (y1 : Int32) (w26 : Int64) (x1906 : (Int32 × CT)) (v1929_0 : Int32) : Option ST := (if x1906.1 = v1929_0 then (if w26 ≤ (0 : Int64) then (some (σ, x1906.2, q12, n14, n15, n16, n17)) else (some ((lSI σ 7 (9 + w23) (nI (lowN (y1 >>> ((nI 2) &&& 31)) (n17 + 1)))), x1906.2, q12, n14, n15, n16, n17))) else none)
def fS1887 (σ : LT) (τ : CT) (q12 : Int64) (n14 : Nat) (n15 : Nat) (n16 : Nat) (n17 : Nat) (w23 : Nat) (y1 : Int32) (w26 : Int64) : Option ST := (lcall none (fL_tried1 τ (nI w23) (nI (lowN (y1 >>> ((nI 2) &&& 31)) (n17 + 1)))) (fun x1906 => (fS1887_B1929 σ τ q12 n14 n15 n16 n17 w23 y1 w26 x1906 (if w26 ≤ (0 : Int64) then (-9) else (lI σ 7 (9 + w23))))))
set_option maxHeartbeats 4000000 in
set_option maxRecDepth 100000 in
theorem sS1887 {p : Program} {l : Launch} {e : Env} {s : State} {m : MethodId} {below : List Frame} {meth : Method} {c : Code} {b L : Nat} {xs : Nat → Int32} {Q : State → Prop} {D : va_G} {E : Nat → ClassId} {σ : LT} {τ : CT} {ad : Nat → Nat → Nat} {fa : Nat → Nat → Option Nat} {ar : Nat → Nat} {h : XW} {H : Heap} {locs : List Loc} {cells slots K Ks : Nat}  {q12 : Int64} {n14 n15 n16 n17 n18 n19 : Nat} {w23 : Nat} {y1 : Int32} {w26 : Int64} {st : ST} {ls : Array Slot} (F : LF p l s m c b L xs) (I : XI s.heap.size D E h s H) (hL : RA E σ ar h) (hR : RC E (lPr ar) τ ad fa h) (hS : va_S (xA s.heap.size) s.heap H locs) (hW : LW σ) (hC : CW τ)  (h14 : n14 ≤ 12) (h15 : n15 ≤ 10) (h16 : n16 ≤ 10) (h17 : n17 < 300) (h18 : n18 < 1000) (h19 : n19 < 44) (h23 : w23 < 3) (hc1 : cells + 100 ≤ K) (hc2 : slots + 1000 ≤ Ks) (hK1 : K ≤ 600086) (hK2 : Ks ≤ 7301442) (hl : lv_has ls 39 [(0, .ref b), (1, .ref (ad 0 0)), (2, .ref (ar 0)), (3, .ref (ar 1)), (4, .ref (ar 2)), (5, .ref (ar 3)), (6, .ref (ar 4)), (7, .ref (ar 5)), (8, .ref (ar 6)), (9, .ref (ar 8)), (10, .ref (ar 7)), (11, .ref (ar 9)), (12, .long q12), (14, .int (nI n14)), (15, .int (nI n15)), (16, .int (nI n16)), (17, .int (nI n17)), (18, .int (nI n18)), (19, .int (nI n19)), (23, .int (nI w23)), (21, .int y1), (26, .long w26)]) (kk : lKK p l e s m below meth c b D E ar Q K Ks n18 n19 2560 st) (hG : fS1887 σ τ q12 n14 n15 n16 n17 w23 y1 w26 = some st) : W p l e room_1 s m #[Value.ref b] below meth c H locs cells slots Q (F0 m 1887 ls []) := by
  obtain ⟨hx, hb, hml, hown, hts, hX, hbl, hCa, hlst, hLL⟩ := id F
  have hbA : ¬ xA s.heap.size b := Nat.not_le.mpr hbl
  unfold fS1887 at hG
  refine lv_iload hx hb dL_law_1887 (lv_at hl 20 rfl) ?_
  refine lv_iconst (v := (nI 2)) hx hb dL_law_1889 (by decide) ?_
  refine lv_ishr hx hb dL_law_1890 ?_
  refine lv_iload hx hb dL_law_1891 (lv_at hl 16 rfl) ?_
  refine lv_iconst (v := (nI 1)) hx hb dL_law_1893 (by decide) ?_
  refine lv_iadd hx hb dL_law_1894 ?_
  refine xtop (y := .int (nI (n17 + 1))) (congrArg Value.int (nI_add _ _)) ?_
  refine xcsR (As := [.int (y1 >>> ((nI 2) &&& 31)), .int (nI (n17 + 1))]) (rest := []) (v := some (.int (nI (lowN (y1 >>> ((nI 2) &&& 31)) (n17 + 1))))) ⟨hx, hb, hml, hown, hts⟩ (mL_low l s.heap.size D E h (y1 >>> ((nI 2) &&& 31)) (n17 + 1) (by first | assumption | omega) (by first | assumption | omega)) (va_cwS 2 hts gL_law_L_low rfl rfl rfl (by decide +kernel) ⟨Nat.le_of_ble_eq_true rfl, Nat.le_of_ble_eq_true rfl⟩) I rfl hl.1 rfl (Nat.le_of_ble_eq_true rfl) dL_law_1895 ⟨show cells + 0 ≤ 600086 by omega, show slots + 0 ≤ 7301442 by omega⟩ ?_
  refine W.eq (g2 := F0 m 1898 ls [.int (nI (lowN (y1 >>> ((nI 2) &&& 31)) (n17 + 1)))]) rfl ?_
  have l1895 : lowN (y1 >>> ((nI 2) &&& 31)) (n17 + 1) < (n17 + 1) := lowN_lt _ (by omega)
  refine lv_istore (lv' := [(28, .int (nI (lowN (y1 >>> ((nI 2) &&& 31)) (n17 + 1)))), (0, .ref b), (1, .ref (ad 0 0)), (2, .ref (ar 0)), (3, .ref (ar 1)), (4, .ref (ar 2)), (5, .ref (ar 3)), (6, .ref (ar 4)), (7, .ref (ar 5)), (8, .ref (ar 6)), (9, .ref (ar 8)), (10, .ref (ar 7)), (11, .ref (ar 9)), (12, .long q12), (14, .int (nI n14)), (15, .int (nI n15)), (16, .int (nI n16)), (17, .int (nI n17)), (18, .int (nI n18)), (19, .int (nI n19)), (23, .int (nI w23)), (21, .int y1), (26, .long w26)]) hx hb dL_law_1898 hl (by decide) rfl (fun ls hl => ?_)
  refine lv_aload_n hx hb dL_law_1900 rfl (lv_at hl 2 rfl) ?_
  refine lv_iconst (v := (nI 1)) hx hb dL_law_1901 (by decide) ?_
  refine lv_iload hx hb dL_law_1902 (lv_at hl 20 rfl) ?_
  refine lv_iload hx hb dL_law_1904 (lv_at hl 0 rfl) ?_
  cases e1906 : (fL_tried1 τ (nI w23) (nI (lowN (y1 >>> ((nI 2) &&& 31)) (n17 + 1)))) with
  | inl En => rw [e1906] at hG; exact absurd (show (none : Option ST) = some st from hG) (fun z => nomatch z)
  | inr x1906 =>
    rw [e1906] at hG
    have hG : (fS1887_B1929 σ τ q12 n14 n15 n16 n17 w23 y1 w26 x1906 (if w26 ≤ (0 : Int64) then (-9) else (lI σ 7 (9 + w23)))) = some st := hG
    refine xcsB (As := [.ref (ad 0 0), .int (nI 1), .int (nI w23), .int (nI (lowN (y1 >>> ((nI 2) &&& 31)) (n17 + 1)))]) (rest := []) ⟨hx, hb, hml, hown, hts⟩ (mL_tried1 l s.heap.size D E h hlst (lPr ar) τ ad fa hR hC (nI w23) (nI (lowN (y1 >>> ((nI 2) &&& 31)) (n17 + 1))) ⟨_, e1906⟩) (vx_cwSW 4 hts gL_law_L_tried rfl rfl rfl (by decide +kernel) ⟨Nat.le_of_ble_eq_true rfl, Nat.le_of_ble_eq_true rfl⟩) I hCa hS rfl hl.1 rfl (Nat.le_of_ble_eq_true rfl) dL_law_1906 ⟨show cells + 3 ≤ 600086 by omega, show slots + 18 ≤ 7301442 by omega⟩ (fun v9 hw H locs q9 I hS => ?_)
    obtain ⟨y9, e9, q1, ad_1906, fa_1906, hR, hF, hC, h00_1906⟩ := q9
    have e9 := Sum.inr.inj (e1906.symm.trans e9)
    subst e9
    subst q1
    have hL := hL.keep hF
    try rw [← h00_1906] at hl
    refine W.eq (g2 := F0 m 1909 ls [.int x1906.1]) rfl ?_
    refine lv_lload hx hb dL_law_1909 (lv_at hl 22 rfl) ?_
    refine lv_lconst (v := (0 : Int64)) hx hb dL_law_1911 rfl ?_
    have B1929 : ∀ (v1929_0 : Int32), fS1887_B1929 σ τ q12 n14 n15 n16 n17 w23 y1 w26 x1906 v1929_0 = some st → ∀ ls : Array Slot, lv_has ls 39 [(0, .ref b), (1, .ref (ad_1906 0 0)), (2, .ref (ar 0)), (3, .ref (ar 1)), (4, .ref (ar 2)), (5, .ref (ar 3)), (6, .ref (ar 4)), (7, .ref (ar 5)), (8, .ref (ar 6)), (9, .ref (ar 8)), (10, .ref (ar 7)), (11, .ref (ar 9)), (12, .long q12), (14, .int (nI n14)), (15, .int (nI n15)), (16, .int (nI n16)), (17, .int (nI n17)), (18, .int (nI n18)), (19, .int (nI n19)), (23, .int (nI w23)), (26, .long w26), (28, .int (nI (lowN (y1 >>> ((nI 2) &&& 31)) (n17 + 1))))] → W p l e room_1 s m #[Value.ref b] below meth c H locs (cells + 3) (slots + 18) Q (F0 m 1929 ls [.int v1929_0, .int x1906.1]) := by
      intro v1929_0 hG ls hl
      unfold fS1887_B1929 at hG
      refine lv_icmp_eq (tgt := 1934) hx hb dL_law_1929 (by decide) (fun c_1929 => ?_) (fun c_1929 => ?_)
      · skip
        rw [if_pos c_1929] at hG
        refine lv_lload hx hb dL_law_1934 (lv_at hl 20 rfl) ?_
        refine lv_lconst (v := (0 : Int64)) hx hb dL_law_1936 rfl ?_
        refine xl_le (tgt := 1951) hx hb dL_law_1937 dL_law_1938 (by decide) (fun c_1937 => ?_) (fun c_1937 => ?_)
        · skip
          rw [if_pos c_1937] at hG
          refine lv_goto (tgt := 2016) hx hb dL_law_1951 (by decide) ?_
          refine lv_goto (tgt := 2560) hx hb dL_law_2016 (by decide) ?_
          have hst := Option.some.inj (show some (σ, x1906.2, q12, n14, n15, n16, n17) = some st from hG)
          subst hst
          exact W.widen (by omega) (by omega) (kk _ _ _ _ _ _ I hL hR hS hW hC (lv_sub hl [0, 1, 2, 3, 4, 5, 6, 7, 8, 9, 10, 11, 12, 13, 14, 15, 16, 17, 18] rfl))
        · skip
          rw [if_neg c_1937] at hG
          refine lv_aload hx hb dL_law_1941 (lv_at hl 10 rfl) ?_
          refine lv_bipush (v := (nI 9)) hx hb dL_law_1943 (by decide) ?_
          refine lv_iload hx hb dL_law_1945 (lv_at hl 19 rfl) ?_
          refine lv_iadd hx hb dL_law_1947 ?_
          refine xtop (y := .int (nI (9 + w23))) (congrArg Value.int (nI_add _ _)) ?_
          refine lv_iload hx hb dL_law_1948 (lv_at hl 21 rfl) ?_
          refine xiS (x := (nI (lowN (y1 >>> ((nI 2) &&& 31)) (n17 + 1)))) (i := (9 + w23)) (n := 16) 7 hx hb I hS hL hR (by decide) (by omega) (by decide) dL_law_1950 (fun H locs hw I hL hR hS => ?_)
          have hW : LW (lSI σ 7 (9 + w23) (nI (lowN (y1 >>> ((nI 2) &&& 31)) (n17 + 1)))) := hW.sI 7 (9 + w23) (nI (lowN (y1 >>> ((nI 2) &&& 31)) (n17 + 1))) (by omega)
          refine lv_goto (tgt := 2016) hx hb dL_law_1951 (by decide) ?_
          refine lv_goto (tgt := 2560) hx hb dL_law_2016 (by decide) ?_
          have hst := Option.some.inj (show some ((lSI σ 7 (9 + w23) (nI (lowN (y1 >>> ((nI 2) &&& 31)) (n17 + 1)))), x1906.2, q12, n14, n15, n16, n17) = some st from hG)
          subst hst
          exact W.widen (by omega) (by omega) (kk _ _ _ _ _ _ I hL hR hS hW hC (lv_sub hl [0, 1, 2, 3, 4, 5, 6, 7, 8, 9, 10, 11, 12, 13, 14, 15, 16, 17, 18] rfl))
      · skip
        rw [if_neg c_1929] at hG
        refine lv_iconst (v := (nI 0)) hx hb dL_law_1932 (by decide) ?_
        exact absurd (show (none : Option ST) = some st from hG) (fun z => nomatch z)
    refine xl_le (tgt := 1927) hx hb dL_law_1912 dL_law_1913 (by decide) (fun c_1912 => ?_) (fun c_1912 => ?_)
    · skip
      rw [if_pos c_1912] at hG
      refine lv_bipush (v := (-9)) hx hb dL_law_1927 (by decide) ?_
      exact B1929 (-9) hG ls (lv_sub hl [1, 2, 3, 4, 5, 6, 7, 8, 9, 10, 11, 12, 13, 14, 15, 16, 17, 18, 19, 20, 22, 0] rfl)
    · skip
      rw [if_neg c_1912] at hG
      refine lv_aload hx hb dL_law_1916 (lv_at hl 11 rfl) ?_
      refine lv_bipush (v := (nI 9)) hx hb dL_law_1918 (by decide) ?_
      refine lv_iload hx hb dL_law_1920 (lv_at hl 20 rfl) ?_
      refine lv_iadd hx hb dL_law_1922 ?_
      refine xtop (y := .int (nI (9 + w23))) (congrArg Value.int (nI_add _ _)) ?_
      refine xiald (i := (9 + w23)) (n := 16) hx hb I (hL.2.1 7 16 (by decide)) (by omega) (by decide) dL_law_1923 ?_
      refine lv_goto (tgt := 1929) hx hb dL_law_1924 (by decide) ?_
      exact B1929 (lI σ 7 (9 + w23)) hG ls (lv_sub hl [1, 2, 3, 4, 5, 6, 7, 8, 9, 10, 11, 12, 13, 14, 15, 16, 17, 18, 19, 20, 22, 0] rfl)

def fS1954 (σ : LT) (τ : CT) (q12 : Int64) (n14 : Nat) (n15 : Nat) (n16 : Nat) (n17 : Nat) (w23 : Nat) (y1 : Int32) (w26 : Int64) : Option ST := (lcall none (fX7_pay τ (nI w23) (nI (1 + (lowN (y1 >>> ((nI 2) &&& 31)) 3000000)))) (fun x1983 => (if x1983.1 = (w26 - (lN (1 + (lowN (y1 >>> ((nI 2) &&& 31)) 3000000)))) then (if (lN (1 + (lowN (y1 >>> ((nI 2) &&& 31)) 3000000))) < w26 then (some ((lSL σ 9 w23 ((lL σ 9 w23) + (lN (1 + (lowN (y1 >>> ((nI 2) &&& 31)) 3000000))))), x1983.2, q12, n14, n15, n16, n17)) else (some ((lSI (lSL σ 9 w23 ((lL σ 9 w23) + (lN (1 + (lowN (y1 >>> ((nI 2) &&& 31)) 3000000))))) 7 (9 + w23) (-1)), x1983.2, q12, n14, n15, n16, n17))) else none)))
set_option maxHeartbeats 4000000 in
set_option maxRecDepth 100000 in
theorem sS1954 {p : Program} {l : Launch} {e : Env} {s : State} {m : MethodId} {below : List Frame} {meth : Method} {c : Code} {b L : Nat} {xs : Nat → Int32} {Q : State → Prop} {D : va_G} {E : Nat → ClassId} {σ : LT} {τ : CT} {ad : Nat → Nat → Nat} {fa : Nat → Nat → Option Nat} {ar : Nat → Nat} {h : XW} {H : Heap} {locs : List Loc} {cells slots K Ks : Nat}  {q12 : Int64} {n14 n15 n16 n17 n18 n19 : Nat} {w23 : Nat} {y1 : Int32} {w26 : Int64} {st : ST} {ls : Array Slot} (F : LF p l s m c b L xs) (I : XI s.heap.size D E h s H) (hL : RA E σ ar h) (hR : RC E (lPr ar) τ ad fa h) (hS : va_S (xA s.heap.size) s.heap H locs) (hW : LW σ) (hC : CW τ)  (h14 : n14 ≤ 12) (h15 : n15 ≤ 10) (h16 : n16 ≤ 10) (h17 : n17 < 300) (h18 : n18 < 1000) (h19 : n19 < 44) (h23 : w23 < 3) (hc1 : cells + 100 ≤ K) (hc2 : slots + 1000 ≤ Ks) (hK1 : K ≤ 600086) (hK2 : Ks ≤ 7301442) (hl : lv_has ls 39 [(0, .ref b), (1, .ref (ad 0 0)), (2, .ref (ar 0)), (3, .ref (ar 1)), (4, .ref (ar 2)), (5, .ref (ar 3)), (6, .ref (ar 4)), (7, .ref (ar 5)), (8, .ref (ar 6)), (9, .ref (ar 8)), (10, .ref (ar 7)), (11, .ref (ar 9)), (12, .long q12), (14, .int (nI n14)), (15, .int (nI n15)), (16, .int (nI n16)), (17, .int (nI n17)), (18, .int (nI n18)), (19, .int (nI n19)), (23, .int (nI w23)), (21, .int y1), (26, .long w26)]) (kk : lKK p l e s m below meth c b D E ar Q K Ks n18 n19 2560 st) (hG : fS1954 σ τ q12 n14 n15 n16 n17 w23 y1 w26 = some st) : W p l e room_1 s m #[Value.ref b] below meth c H locs cells slots Q (F0 m 1954 ls []) := by
  obtain ⟨hx, hb, hml, hown, hts, hX, hbl, hCa, hlst, hLL⟩ := id F
  have hbA : ¬ xA s.heap.size b := Nat.not_le.mpr hbl
  unfold fS1954 at hG
  refine lv_iconst (v := (nI 1)) hx hb dL_law_1954 (by decide) ?_
  refine lv_iload hx hb dL_law_1955 (lv_at hl 20 rfl) ?_
  refine lv_iconst (v := (nI 2)) hx hb dL_law_1957 (by decide) ?_
  refine lv_ishr hx hb dL_law_1958 ?_
  refine lv_ldc (v := (nI 3000000)) hx hb hown (hts _ (List.mem_of_getElem? (i := 12) rfl)) dL_law_1959 ?_
  refine xcsR (As := [.int (y1 >>> ((nI 2) &&& 31)), .int (nI 3000000)]) (rest := [.int (nI 1)]) (v := some (.int (nI (lowN (y1 >>> ((nI 2) &&& 31)) 3000000)))) ⟨hx, hb, hml, hown, hts⟩ (mL_low l s.heap.size D E h (y1 >>> ((nI 2) &&& 31)) 3000000 (by first | assumption | omega) (by first | assumption | omega)) (va_cwS 2 hts gL_law_L_low rfl rfl rfl (by decide +kernel) ⟨Nat.le_of_ble_eq_true rfl, Nat.le_of_ble_eq_true rfl⟩) I rfl hl.1 rfl (Nat.le_of_ble_eq_true rfl) dL_law_1961 ⟨show cells + 0 ≤ 600086 by omega, show slots + 0 ≤ 7301442 by omega⟩ ?_
  refine W.eq (g2 := F0 m 1964 ls [.int (nI (lowN (y1 >>> ((nI 2) &&& 31)) 3000000)), .int (nI 1)]) rfl ?_
  have l1961 : lowN (y1 >>> ((nI 2) &&& 31)) 3000000 < 3000000 := lowN_lt _ (by omega)
  refine lv_iadd hx hb dL_law_1964 ?_
  refine xtop (y := .int (nI (1 + (lowN (y1 >>> ((nI 2) &&& 31)) 3000000)))) (congrArg Value.int (nI_add _ _)) ?_
  refine lv_istore (lv' := [(28, .int (nI (1 + (lowN (y1 >>> ((nI 2) &&& 31)) 3000000)))), (0, .ref b), (1, .ref (ad 0 0)), (2, .ref (ar 0)), (3, .ref (ar 1)), (4, .ref (ar 2)), (5, .ref (ar 3)), (6, .ref (ar 4)), (7, .ref (ar 5)), (8, .ref (ar 6)), (9, .ref (ar 8)), (10, .ref (ar 7)), (11, .ref (ar 9)), (12, .long q12), (14, .int (nI n14)), (15, .int (nI n15)), (16, .int (nI n16)), (17, .int (nI n17)), (18, .int (nI n18)), (19, .int (nI n19)), (23, .int (nI w23)), (21, .int y1), (26, .long w26)]) hx hb dL_law_1965 hl (by decide) rfl (fun ls hl => ?_)
  refine lv_aload hx hb dL_law_1967 (lv_at hl 12 rfl) ?_
  refine lv_iload hx hb dL_law_1969 (lv_at hl 20 rfl) ?_
  refine lv_dup2_11 hx hb dL_law_1971 rfl rfl ?_
  refine xlald (i := w23) (n := 3) hx hb I (hL.2.2.1 9 3 (by decide)) (by omega) (by decide) dL_law_1972 ?_
  refine lv_iload hx hb dL_law_1973 (lv_at hl 0 rfl) ?_
  refine lv_i2l (v := (lN (1 + (lowN (y1 >>> ((nI 2) &&& 31)) 3000000)))) hx hb dL_law_1975 (nI_l (by omega)) ?_
  refine lv_ladd hx hb dL_law_1976 ?_
  refine xlS (x := ((lL σ 9 w23) + (lN (1 + (lowN (y1 >>> ((nI 2) &&& 31)) 3000000))))) (i := w23) (n := 3) 9 hx hb I hS hL hR (by decide) (by omega) (by decide) dL_law_1977 (fun H locs hw I hL hR hS => ?_)
  have hW : LW (lSL σ 9 w23 ((lL σ 9 w23) + (lN (1 + (lowN (y1 >>> ((nI 2) &&& 31)) 3000000))))) := hW.sL 9 w23 ((lL σ 9 w23) + (lN (1 + (lowN (y1 >>> ((nI 2) &&& 31)) 3000000))))
  refine lv_aload_n hx hb dL_law_1978 rfl (lv_at hl 2 rfl) ?_
  refine lv_iload hx hb dL_law_1979 (lv_at hl 20 rfl) ?_
  refine lv_iload hx hb dL_law_1981 (lv_at hl 0 rfl) ?_
  cases e1983 : (fX7_pay τ (nI w23) (nI (1 + (lowN (y1 >>> ((nI 2) &&& 31)) 3000000)))) with
  | inl En => rw [e1983] at hG; exact absurd (show (none : Option ST) = some st from hG) (fun z => nomatch z)
  | inr x1983 =>
    rw [e1983] at hG
    have hG : (if x1983.1 = (w26 - (lN (1 + (lowN (y1 >>> ((nI 2) &&& 31)) 3000000)))) then (if (lN (1 + (lowN (y1 >>> ((nI 2) &&& 31)) 3000000))) < w26 then (some ((lSL σ 9 w23 ((lL σ 9 w23) + (lN (1 + (lowN (y1 >>> ((nI 2) &&& 31)) 3000000))))), x1983.2, q12, n14, n15, n16, n17)) else (some ((lSI (lSL σ 9 w23 ((lL σ 9 w23) + (lN (1 + (lowN (y1 >>> ((nI 2) &&& 31)) 3000000))))) 7 (9 + w23) (-1)), x1983.2, q12, n14, n15, n16, n17))) else none) = some st := hG
    refine xcvN (As := [.int (nI w23), .int (nI (1 + (lowN (y1 >>> ((nI 2) &&& 31)) 3000000)))]) (rest := []) ⟨hx, hb, hml, hown, hts⟩ (mX7_pay l s.heap.size D E hw hlst (lPr ar) τ ad fa hR hC (nI w23) (nI (1 + (lowN (y1 >>> ((nI 2) &&& 31)) 3000000)))) (cwV 2 hts gL_law_X7_pay rfl rfl rfl (by decide +kernel) ⟨Nat.le_of_ble_eq_true rfl, Nat.le_of_ble_eq_true rfl⟩) I hS hR.f0 rfl rfl hl.1 rfl (Nat.le_of_ble_eq_true rfl) dL_law_1983 ⟨show cells + 2 ≤ 600086 by omega, show slots + 12 ≤ 7301442 by omega⟩ (fun En q => by rw [e1983] at q; cases q) (fun v9 hw H locs q9 I hS => ?_)
    obtain ⟨y9, e9, q1, hR, hF, hC⟩ := q9
    have e9 := Sum.inr.inj (e1983.symm.trans e9)
    subst e9
    subst q1
    have hL := hL.keep hF
    refine W.eq (g2 := F0 m 1986 ls [.long x1983.1]) rfl ?_
    refine lv_lload hx hb dL_law_1986 (lv_at hl 22 rfl) ?_
    refine lv_iload hx hb dL_law_1988 (lv_at hl 0 rfl) ?_
    refine lv_i2l (v := (lN (1 + (lowN (y1 >>> ((nI 2) &&& 31)) 3000000)))) hx hb dL_law_1990 (nI_l (by omega)) ?_
    refine lv_lsub hx hb dL_law_1991 ?_
    refine xl_eq (tgt := 1998) hx hb dL_law_1992 dL_law_1993 (by decide) (fun c_1992 => ?_) (fun c_1992 => ?_)
    · skip
      rw [if_pos c_1992] at hG
      refine lv_lload hx hb dL_law_1998 (lv_at hl 22 rfl) ?_
      refine lv_iload hx hb dL_law_2000 (lv_at hl 0 rfl) ?_
      refine lv_i2l (v := (lN (1 + (lowN (y1 >>> ((nI 2) &&& 31)) 3000000)))) hx hb dL_law_2002 (nI_l (by omega)) ?_
      refine xl_gt (tgt := 2016) hx hb dL_law_2003 dL_law_2004 (by decide) (fun c_2003 => ?_) (fun c_2003 => ?_)
      · skip
        rw [if_pos c_2003] at hG
        refine lv_goto (tgt := 2560) hx hb dL_law_2016 (by decide) ?_
        have hst := Option.some.inj (show some ((lSL σ 9 w23 ((lL σ 9 w23) + (lN (1 + (lowN (y1 >>> ((nI 2) &&& 31)) 3000000))))), x1983.2, q12, n14, n15, n16, n17) = some st from hG)
        subst hst
        exact W.widen (by omega) (by omega) (kk _ _ _ _ _ _ I hL hR hS hW hC (lv_sub hl [1, 2, 3, 4, 5, 6, 7, 8, 9, 10, 11, 12, 13, 14, 15, 16, 17, 18, 19] rfl))
      · skip
        rw [if_neg c_2003] at hG
        refine lv_aload hx hb dL_law_2007 (lv_at hl 11 rfl) ?_
        refine lv_bipush (v := (nI 9)) hx hb dL_law_2009 (by decide) ?_
        refine lv_iload hx hb dL_law_2011 (lv_at hl 20 rfl) ?_
        refine lv_iadd hx hb dL_law_2013 ?_
        refine xtop (y := .int (nI (9 + w23))) (congrArg Value.int (nI_add _ _)) ?_
        refine lv_iconst (v := (-1)) hx hb dL_law_2014 (by decide) ?_
        refine xiS (x := (-1)) (i := (9 + w23)) (n := 16) 7 hx hb I hS hL hR (by decide) (by omega) (by decide) dL_law_2015 (fun H locs hw I hL hR hS => ?_)
        have hW : LW (lSI (lSL σ 9 w23 ((lL σ 9 w23) + (lN (1 + (lowN (y1 >>> ((nI 2) &&& 31)) 3000000))))) 7 (9 + w23) (-1)) := hW.sI 7 (9 + w23) (-1) (by omega)
        refine lv_goto (tgt := 2560) hx hb dL_law_2016 (by decide) ?_
        have hst := Option.some.inj (show some ((lSI (lSL σ 9 w23 ((lL σ 9 w23) + (lN (1 + (lowN (y1 >>> ((nI 2) &&& 31)) 3000000))))) 7 (9 + w23) (-1)), x1983.2, q12, n14, n15, n16, n17) = some st from hG)
        subst hst
        exact W.widen (by omega) (by omega) (kk _ _ _ _ _ _ I hL hR hS hW hC (lv_sub hl [1, 2, 3, 4, 5, 6, 7, 8, 9, 10, 11, 12, 13, 14, 15, 16, 17, 18, 19] rfl))
    · skip
      rw [if_neg c_1992] at hG
      refine lv_iconst (v := (nI 0)) hx hb dL_law_1996 (by decide) ?_
      exact absurd (show (none : Option ST) = some st from hG) (fun z => nomatch z)

def fS1539_S1550 (σ : LT) (τ : CT) (q12 : Int64) (n14 : Nat) (n15 : Nat) (n16 : Nat) (n17 : Nat) (w23 : Nat) (y1 : Int32) (k1550 : Nat) (a1550_26 : Int64) : (Int64) := (a1550_26 + (fL_due σ n14 w23 k1550))
def fS1539_L1550 (σ : LT) (τ : CT) (q12 : Int64) (n14 : Nat) (n15 : Nat) (n16 : Nat) (n17 : Nat) (w23 : Nat) (y1 : Int32) : Nat → Nat → Int64 → Option ST
  | 0, k1550, a1550_26 => (if lowN y1 3 = 0 then (fS1595 σ τ q12 n14 n15 n16 n17 w23 y1) else (if lowN y1 3 = 1 then (fS1887 σ τ q12 n14 n15 n16 n17 w23 y1 a1550_26) else (fS1954 σ τ q12 n14 n15 n16 n17 w23 y1 a1550_26)))
  | n1550 + 1, k1550, a1550_26 => lseq (fS1539_S1550 σ τ q12 n14 n15 n16 n17 w23 y1 k1550 a1550_26) (fun q => fS1539_L1550 σ τ q12 n14 n15 n16 n17 w23 y1 n1550 (k1550 + 1) q)
def fS1539 (σ : LT) (τ : CT) (q12 : Int64) (n14 : Nat) (n15 : Nat) (n16 : Nat) (n17 : Nat) (w23 : Nat) (y1 : Int32) : Option ST := (fS1539_L1550 σ τ q12 n14 n15 n16 n17 w23 y1 3 0 (-(lL σ 9 w23)))
set_option maxHeartbeats 4000000 in
set_option maxRecDepth 100000 in
theorem sS1539 {p : Program} {l : Launch} {e : Env} {s : State} {m : MethodId} {below : List Frame} {meth : Method} {c : Code} {b L : Nat} {xs : Nat → Int32} {Q : State → Prop} {D : va_G} {E : Nat → ClassId} {σ : LT} {τ : CT} {ad : Nat → Nat → Nat} {fa : Nat → Nat → Option Nat} {ar : Nat → Nat} {h : XW} {H : Heap} {locs : List Loc} {cells slots K Ks : Nat}  {q12 : Int64} {n14 n15 n16 n17 n18 n19 : Nat} {w23 : Nat} {y1 : Int32} {st : ST} {ls : Array Slot} (F : LF p l s m c b L xs) (I : XI s.heap.size D E h s H) (hL : RA E σ ar h) (hR : RC E (lPr ar) τ ad fa h) (hS : va_S (xA s.heap.size) s.heap H locs) (hW : LW σ) (hC : CW τ)  (h14 : n14 ≤ 12) (h15 : n15 ≤ 10) (h16 : n16 ≤ 10) (h17 : n17 < 300) (h18 : n18 < 1000) (h19 : n19 < 44) (h23 : w23 < 3) (hc1 : cells + 150 ≤ K) (hc2 : slots + 1500 ≤ Ks) (hK1 : K ≤ 600086) (hK2 : Ks ≤ 7301442) (hl : lv_has ls 39 [(0, .ref b), (1, .ref (ad 0 0)), (2, .ref (ar 0)), (3, .ref (ar 1)), (4, .ref (ar 2)), (5, .ref (ar 3)), (6, .ref (ar 4)), (7, .ref (ar 5)), (8, .ref (ar 6)), (9, .ref (ar 8)), (10, .ref (ar 7)), (11, .ref (ar 9)), (12, .long q12), (14, .int (nI n14)), (15, .int (nI n15)), (16, .int (nI n16)), (17, .int (nI n17)), (18, .int (nI n18)), (19, .int (nI n19)), (23, .int (nI w23)), (21, .int y1)]) (kk : lKK p l e s m below meth c b D E ar Q K Ks n18 n19 2560 st) (hG : fS1539 σ τ q12 n14 n15 n16 n17 w23 y1 = some st) : W p l e room_1 s m #[Value.ref b] below meth c H locs cells slots Q (F0 m 1539 ls []) := by
  obtain ⟨hx, hb, hml, hown, hts, hX, hbl, hCa, hlst, hLL⟩ := id F
  have hbA : ¬ xA s.heap.size b := Nat.not_le.mpr hbl
  unfold fS1539 at hG
  refine lv_aload hx hb dL_law_1539 (lv_at hl 11 rfl) ?_
  refine lv_iload hx hb dL_law_1541 (lv_at hl 19 rfl) ?_
  refine xlald (i := w23) (n := 3) hx hb I (hL.2.2.1 9 3 (by decide)) (by omega) (by decide) dL_law_1543 ?_
  refine lv_lneg hx hb dL_law_1544 ?_
  refine lv_lstore (lv' := [(26, .long (-(lL σ 9 w23))), (0, .ref b), (1, .ref (ad 0 0)), (2, .ref (ar 0)), (3, .ref (ar 1)), (4, .ref (ar 2)), (5, .ref (ar 3)), (6, .ref (ar 4)), (7, .ref (ar 5)), (8, .ref (ar 6)), (9, .ref (ar 8)), (10, .ref (ar 7)), (11, .ref (ar 9)), (12, .long q12), (14, .int (nI n14)), (15, .int (nI n15)), (16, .int (nI n16)), (17, .int (nI n17)), (18, .int (nI n18)), (19, .int (nI n19)), (23, .int (nI w23)), (21, .int y1)]) hx hb dL_law_1545 hl (by decide) rfl (fun ls hl => ?_)
  refine lv_iconst (v := (nI 0)) hx hb dL_law_1547 (by decide) ?_
  refine lv_istore (lv' := [(28, .int (nI 0)), (26, .long (-(lL σ 9 w23))), (0, .ref b), (1, .ref (ad 0 0)), (2, .ref (ar 0)), (3, .ref (ar 1)), (4, .ref (ar 2)), (5, .ref (ar 3)), (6, .ref (ar 4)), (7, .ref (ar 5)), (8, .ref (ar 6)), (9, .ref (ar 8)), (10, .ref (ar 7)), (11, .ref (ar 9)), (12, .long q12), (14, .int (nI n14)), (15, .int (nI n15)), (16, .int (nI n16)), (17, .int (nI n17)), (18, .int (nI n18)), (19, .int (nI n19)), (23, .int (nI w23)), (21, .int y1)]) hx hb dL_law_1548 hl (by decide) rfl (fun ls hl => ?_)
  have L1550 : ∀ (n1550 : Nat) (k1550 : Nat) (a1550_26 : Int64), k1550 + n1550 = 3 → fS1539_L1550 σ τ q12 n14 n15 n16 n17 w23 y1 n1550 k1550 a1550_26 = some st → ∀ ls : Array Slot, lv_has ls 39 [(0, .ref b), (1, .ref (ad 0 0)), (2, .ref (ar 0)), (3, .ref (ar 1)), (4, .ref (ar 2)), (5, .ref (ar 3)), (6, .ref (ar 4)), (7, .ref (ar 5)), (8, .ref (ar 6)), (9, .ref (ar 8)), (10, .ref (ar 7)), (11, .ref (ar 9)), (12, .long q12), (14, .int (nI n14)), (15, .int (nI n15)), (16, .int (nI n16)), (17, .int (nI n17)), (18, .int (nI n18)), (19, .int (nI n19)), (21, .int y1), (23, .int (nI w23)), (26, .long a1550_26), (28, .int (nI k1550))] → W p l e room_1 s m #[Value.ref b] below meth c H locs cells slots Q (F0 m 1550 ls []) := by
    intro n1550
    induction n1550 with
    | zero =>
      intro k1550 a1550_26 hkn hG ls hl
      have hkN : k1550 = 3 := by omega
      have hG : (if lowN y1 3 = 0 then (fS1595 σ τ q12 n14 n15 n16 n17 w23 y1) else (if lowN y1 3 = 1 then (fS1887 σ τ q12 n14 n15 n16 n17 w23 y1 a1550_26) else (fS1954 σ τ q12 n14 n15 n16 n17 w23 y1 a1550_26))) = some st := hG
      refine lv_iload hx hb dL_law_1550 (lv_at hl 22 rfl) ?_
      refine lv_iconst (v := (nI 3)) hx hb dL_law_1552 (by decide) ?_
      refine lv_icmp_ge (tgt := 1586) hx hb dL_law_1553 (by decide) (fun _ => ?_) (fun q => absurd (nI_le (Nat.le_of_eq hkN.symm) (by omega)) q)
      refine lv_iload hx hb dL_law_1586 (lv_at hl 19 rfl) ?_
      refine lv_iconst (v := (nI 3)) hx hb dL_law_1588 (by decide) ?_
      refine xcsR (As := [.int y1, .int (nI 3)]) (rest := []) (v := some (.int (nI (lowN y1 3)))) ⟨hx, hb, hml, hown, hts⟩ (mL_low l s.heap.size D E h y1 3 (by first | assumption | omega) (by first | assumption | omega)) (va_cwS 2 hts gL_law_L_low rfl rfl rfl (by decide +kernel) ⟨Nat.le_of_ble_eq_true rfl, Nat.le_of_ble_eq_true rfl⟩) I rfl hl.1 rfl (Nat.le_of_ble_eq_true rfl) dL_law_1589 ⟨show cells + 0 ≤ 600086 by omega, show slots + 0 ≤ 7301442 by omega⟩ ?_
      refine W.eq (g2 := F0 m 1592 ls [.int (nI (lowN y1 3))]) rfl ?_
      have l1589 : lowN y1 3 < 3 := lowN_lt _ (by omega)
      refine lv_if_ne (tgt := 1877) hx hb dL_law_1592 (by decide) (fun c_1592 => ?_) (fun c_1592 => ?_)
      · skip
        have c_1592 : ¬ lowN y1 3 = 0 := fun q => c_1592 ((nI_eq (a := (lowN y1 3)) (b := 0) (by omega) (by omega)).mpr q)
        rw [if_neg c_1592] at hG
        refine lv_iload hx hb dL_law_1877 (lv_at hl 19 rfl) ?_
        refine lv_iconst (v := (nI 3)) hx hb dL_law_1879 (by decide) ?_
        refine xcsR (As := [.int y1, .int (nI 3)]) (rest := []) (v := some (.int (nI (lowN y1 3)))) ⟨hx, hb, hml, hown, hts⟩ (mL_low l s.heap.size D E h y1 3 (by first | assumption | omega) (by first | assumption | omega)) (va_cwS 2 hts gL_law_L_low rfl rfl rfl (by decide +kernel) ⟨Nat.le_of_ble_eq_true rfl, Nat.le_of_ble_eq_true rfl⟩) I rfl hl.1 rfl (Nat.le_of_ble_eq_true rfl) dL_law_1880 ⟨show cells + 0 ≤ 600086 by omega, show slots + 0 ≤ 7301442 by omega⟩ ?_
        refine W.eq (g2 := F0 m 1883 ls [.int (nI (lowN y1 3))]) rfl ?_
        have l1880 : lowN y1 3 < 3 := lowN_lt _ (by omega)
        refine lv_iconst (v := (nI 1)) hx hb dL_law_1883 (by decide) ?_
        refine lv_icmp_ne (tgt := 1954) hx hb dL_law_1884 (by decide) (fun c_1884 => ?_) (fun c_1884 => ?_)
        · skip
          have c_1884 : ¬ lowN y1 3 = 1 := fun q => c_1884 ((nI_eq (a := (lowN y1 3)) (b := 1) (by omega) (by omega)).mpr q)
          rw [if_neg c_1884] at hG
          exact sS1954 F I hL hR hS hW hC (by omega) (by omega) (by omega) (by omega) (by omega) (by omega) (by first | assumption | omega) (by omega) (by omega) hK1 hK2 (lv_sub hl [0, 1, 2, 3, 4, 5, 6, 7, 8, 9, 10, 11, 12, 13, 14, 15, 16, 17, 18, 20, 19, 21] rfl) kk hG
        · skip
          have c_1884 : lowN y1 3 = 1 := (nI_eq (a := (lowN y1 3)) (b := 1) (by omega) (by omega)).mp c_1884
          rw [if_pos c_1884] at hG
          exact sS1887 F I hL hR hS hW hC (by omega) (by omega) (by omega) (by omega) (by omega) (by omega) (by first | assumption | omega) (by omega) (by omega) hK1 hK2 (lv_sub hl [0, 1, 2, 3, 4, 5, 6, 7, 8, 9, 10, 11, 12, 13, 14, 15, 16, 17, 18, 20, 19, 21] rfl) kk hG
      · skip
        have c_1592 : lowN y1 3 = 0 := (nI_eq (a := (lowN y1 3)) (b := 0) (by omega) (by omega)).mp c_1592
        rw [if_pos c_1592] at hG
        exact sS1595 F I hL hR hS hW hC (by omega) (by omega) (by omega) (by omega) (by omega) (by omega) (by first | assumption | omega) (by omega) (by omega) hK1 hK2 (lv_sub hl [0, 1, 2, 3, 4, 5, 6, 7, 8, 9, 10, 11, 12, 13, 14, 15, 16, 17, 18, 20, 19] rfl) kk hG
    | succ n1550 ih1550 =>
      intro k1550 a1550_26 hkn hG ls hl
      have hk : k1550 < 3 := by omega
      have hG : lseq ((a1550_26 + (fL_due σ n14 w23 k1550))) (fun q => fS1539_L1550 σ τ q12 n14 n15 n16 n17 w23 y1 n1550 (k1550 + 1) q) = some st := hG
      refine lv_iload hx hb dL_law_1550 (lv_at hl 22 rfl) ?_
      refine lv_iconst (v := (nI 3)) hx hb dL_law_1552 (by decide) ?_
      refine lv_icmp_ge (tgt := 1586) hx hb dL_law_1553 (by decide) (fun q => absurd q (nI_ge hk (by omega))) (fun _ => ?_)
      refine lv_lload hx hb dL_law_1556 (lv_at hl 21 rfl) ?_
      refine lv_aload_n hx hb dL_law_1558 rfl (lv_at hl 2 rfl) ?_
      refine lv_iload hx hb dL_law_1559 (lv_at hl 13 rfl) ?_
      refine lv_aload_n hx hb dL_law_1561 rfl (lv_at hl 3 rfl) ?_
      refine lv_aload hx hb dL_law_1562 (lv_at hl 4 rfl) ?_
      refine lv_aload hx hb dL_law_1564 (lv_at hl 8 rfl) ?_
      refine lv_aload hx hb dL_law_1566 (lv_at hl 9 rfl) ?_
      refine lv_aload hx hb dL_law_1568 (lv_at hl 10 rfl) ?_
      refine lv_iload hx hb dL_law_1570 (lv_at hl 20 rfl) ?_
      refine lv_iload hx hb dL_law_1572 (lv_at hl 22 rfl) ?_
      refine xcsR (As := [.ref (ar 0), .int (nI n14), .ref (ar 1), .ref (ar 2), .ref (ar 6), .ref (ar 8), .ref (ar 7), .int (nI w23), .int (nI k1550)]) (rest := [.long a1550_26]) (v := some (.long (fL_due σ n14 w23 k1550))) ⟨hx, hb, hml, hown, hts⟩ (mL_due l s.heap.size D E h σ ar hL hW n14 w23 k1550 (by first | assumption | omega) (by first | assumption | omega) (by first | assumption | omega)) (va_cwS 9 hts gL_law_L_due rfl rfl rfl (by decide +kernel) ⟨Nat.le_of_ble_eq_true rfl, Nat.le_of_ble_eq_true rfl⟩) I rfl hl.1 rfl (Nat.le_of_ble_eq_true rfl) dL_law_1574 ⟨show cells + 0 ≤ 600086 by omega, show slots + 0 ≤ 7301442 by omega⟩ ?_
      refine W.eq (g2 := F0 m 1577 ls [.long (fL_due σ n14 w23 k1550), .long a1550_26]) rfl ?_
      refine lv_ladd hx hb dL_law_1577 ?_
      refine lv_lstore (lv' := [(26, .long (a1550_26 + (fL_due σ n14 w23 k1550))), (0, .ref b), (1, .ref (ad 0 0)), (2, .ref (ar 0)), (3, .ref (ar 1)), (4, .ref (ar 2)), (5, .ref (ar 3)), (6, .ref (ar 4)), (7, .ref (ar 5)), (8, .ref (ar 6)), (9, .ref (ar 8)), (10, .ref (ar 7)), (11, .ref (ar 9)), (12, .long q12), (14, .int (nI n14)), (15, .int (nI n15)), (16, .int (nI n16)), (17, .int (nI n17)), (18, .int (nI n18)), (19, .int (nI n19)), (21, .int y1), (23, .int (nI w23)), (28, .int (nI k1550))]) hx hb dL_law_1578 hl (by decide) rfl (fun ls hl => ?_)
      refine lv_iinc (v := (nI (k1550 + 1))) (lv' := [(28, .int (nI (k1550 + 1))), (26, .long (a1550_26 + (fL_due σ n14 w23 k1550))), (0, .ref b), (1, .ref (ad 0 0)), (2, .ref (ar 0)), (3, .ref (ar 1)), (4, .ref (ar 2)), (5, .ref (ar 3)), (6, .ref (ar 4)), (7, .ref (ar 5)), (8, .ref (ar 6)), (9, .ref (ar 8)), (10, .ref (ar 7)), (11, .ref (ar 9)), (12, .long q12), (14, .int (nI n14)), (15, .int (nI n15)), (16, .int (nI n16)), (17, .int (nI n17)), (18, .int (nI n18)), (19, .int (nI n19)), (21, .int y1), (23, .int (nI w23))]) hx hb dL_law_1580 hl (k := 22) rfl (nI_succ k1550).symm (by decide) rfl (fun ls hl => ?_)
      refine lv_goto (tgt := 1550) hx hb dL_law_1583 (by decide) ?_
      exact ih1550 (k1550 + 1) (a1550_26 + (fL_due σ n14 w23 k1550)) (by first | omega | (simp only [lSI_K]; omega)) hG ls (lv_sub hl [2, 3, 4, 5, 6, 7, 8, 9, 10, 11, 12, 13, 14, 15, 16, 17, 18, 19, 20, 21, 22, 1, 0] rfl)
  exact L1550 3 0 (-(lL σ 9 w23)) (by omega) hG ls (lv_sub hl [2, 3, 4, 5, 6, 7, 8, 9, 10, 11, 12, 13, 14, 15, 16, 17, 18, 19, 20, 22, 21, 1, 0] rfl)
