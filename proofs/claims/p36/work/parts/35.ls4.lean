def fS2170_B2506 (σ : LT) (τ : CT) (q12 : Int64) (n14 : Nat) (n15 : Nat) (n16 : Nat) (n17 : Nat) (w26 : Nat) (w28 : Int64) (w2316_12 : Int64) (σ2506 : LT) : Option ST := (some ((lSI σ2506 7 12 (nI (w26 + 1))), τ, w2316_12, n14, n15, n16, n17))
def fS2170_S2443 (σ : LT) (τ : CT) (q12 : Int64) (n14 : Nat) (n15 : Nat) (n16 : Nat) (n17 : Nat) (w26 : Nat) (w28 : Int64) (a2240_30 : Int64) (w2316_12 : Int64) (k2443 : Nat) (a2443_32 : Int64) (σ2443 : LT) : ((Int64 × LT) ⊕ Option ST) := (if a2240_30 ≤ (0 : Int64) then (Sum.inr (fS2170_B2506 σ τ q12 n14 n15 n16 n17 w26 w28 w2316_12 σ2443)) else (if a2443_32 ≤ (0 : Int64) then (Sum.inr (fS2170_B2506 σ τ q12 n14 n15 n16 n17 w26 w28 w2316_12 σ2443)) else (Sum.inl ((if (lI σ2443 7 (3 * k2443 + w26)) = (nI 2) then (a2443_32 - (1 : Int64)) else a2443_32), (if (lI σ2443 7 (3 * k2443 + w26)) = (nI 2) then (lSL σ2443 8 (3 * k2443 + w26) ((lL σ2443 8 (3 * k2443 + w26)) + (1 : Int64))) else σ2443)))))
def fS2170_L2443 (σ : LT) (τ : CT) (q12 : Int64) (n14 : Nat) (n15 : Nat) (n16 : Nat) (n17 : Nat) (w26 : Nat) (w28 : Int64) (a2240_30 : Int64) (w2316_12 : Int64) : Nat → Nat → Int64 → LT → Option ST
  | 0, k2443, a2443_32, σ2443 => (fS2170_B2506 σ τ q12 n14 n15 n16 n17 w26 w28 w2316_12 σ2443)
  | n2443 + 1, k2443, a2443_32, σ2443 => lbind (fS2170_S2443 σ τ q12 n14 n15 n16 n17 w26 w28 a2240_30 w2316_12 k2443 a2443_32 σ2443) (fun q => fS2170_L2443 σ τ q12 n14 n15 n16 n17 w26 w28 a2240_30 w2316_12 n2443 (k2443 + 1) q.1 q.2)
def fS2170_B2440 (σ : LT) (τ : CT) (q12 : Int64) (n14 : Nat) (n15 : Nat) (n16 : Nat) (n17 : Nat) (w26 : Nat) (w28 : Int64) (a2240_30 : Int64) (w2316_12 : Int64) (w2440_32 : Int64) (σ2440 : LT) : Option ST := (fS2170_L2443 σ τ q12 n14 n15 n16 n17 w26 w28 a2240_30 w2316_12 3 0 w2440_32 σ2440)
def fS2170_B2404 (σ : LT) (τ : CT) (q12 : Int64) (n14 : Nat) (n15 : Nat) (n16 : Nat) (n17 : Nat) (w26 : Nat) (w28 : Int64) (k2323 : Nat) (a2323_32 : Int64) (σ2323 : LT) (w2404_37 : Int64) : ((Int64 × LT) ⊕ Option ST) := (Sum.inl ((a2323_32 - w2404_37), (lSI (lSL σ2323 8 (3 * k2323 + w26) w2404_37) 7 (3 * k2323 + w26) (nI 2))))
def fS2170_S2323 (σ : LT) (τ : CT) (q12 : Int64) (n14 : Nat) (n15 : Nat) (n16 : Nat) (n17 : Nat) (w26 : Nat) (w28 : Int64) (a2240_28 : Int64) (a2240_30 : Int64) (w2316_12 : Int64) (k2323 : Nat) (a2323_32 : Int64) (σ2323 : LT) : ((Int64 × LT) ⊕ Option ST) := (if a2240_30 ≤ (0 : Int64) then (Sum.inr (fS2170_B2440 σ τ q12 n14 n15 n16 n17 w26 w28 a2240_30 w2316_12 a2323_32 σ2323)) else (if (lI σ2323 7 (3 * k2323 + w26)) = (nI 1) then (Sum.inl (a2323_32, σ2323)) else (if (fL_weight σ2323 n14 k2323 w26) = (0 : Int64) then (Sum.inl (a2323_32, σ2323)) else (fS2170_B2404 σ τ q12 n14 n15 n16 n17 w26 w28 k2323 a2323_32 σ2323 (if (0 : Int64) ≤ ((a2240_28 * (fL_weight σ2323 n14 k2323 w26)) - (a2240_28 * (fL_weight σ2323 n14 k2323 w26)) / a2240_30 * a2240_30) then ((a2240_28 * (fL_weight σ2323 n14 k2323 w26)) / a2240_30) else (((a2240_28 * (fL_weight σ2323 n14 k2323 w26)) / a2240_30) - (1 : Int64)))))))
def fS2170_L2323 (σ : LT) (τ : CT) (q12 : Int64) (n14 : Nat) (n15 : Nat) (n16 : Nat) (n17 : Nat) (w26 : Nat) (w28 : Int64) (a2240_28 : Int64) (a2240_30 : Int64) (w2316_12 : Int64) : Nat → Nat → Int64 → LT → Option ST
  | 0, k2323, a2323_32, σ2323 => (fS2170_B2440 σ τ q12 n14 n15 n16 n17 w26 w28 a2240_30 w2316_12 a2323_32 σ2323)
  | n2323 + 1, k2323, a2323_32, σ2323 => lbind (fS2170_S2323 σ τ q12 n14 n15 n16 n17 w26 w28 a2240_28 a2240_30 w2316_12 k2323 a2323_32 σ2323) (fun q => fS2170_L2323 σ τ q12 n14 n15 n16 n17 w26 w28 a2240_28 a2240_30 w2316_12 n2323 (k2323 + 1) q.1 q.2)
def fS2170_B2316 (σ : LT) (τ : CT) (q12 : Int64) (n14 : Nat) (n15 : Nat) (n16 : Nat) (n17 : Nat) (w26 : Nat) (w28 : Int64) (σ2173 : LT) (a2240_28 : Int64) (a2240_30 : Int64) (w2316_12 : Int64) : Option ST := (fS2170_L2323 σ τ q12 n14 n15 n16 n17 w26 w28 a2240_28 a2240_30 w2316_12 3 0 a2240_28 σ2173)
def fS2170_S2240 (σ : LT) (τ : CT) (q12 : Int64) (n14 : Nat) (n15 : Nat) (n16 : Nat) (n17 : Nat) (w26 : Nat) (w28 : Int64) (σ2173 : LT) (k2240 : Nat) (a2240_28 : Int64) (a2240_30 : Int64) : (Int64 × Int64) := ((if (lI σ2173 7 (3 * k2240 + w26)) = (nI 1) then (a2240_28 - (lL σ2173 8 (3 * k2240 + w26))) else a2240_28), (if (lI σ2173 7 (3 * k2240 + w26)) = (nI 1) then a2240_30 else (a2240_30 + (fL_weight σ2173 n14 k2240 w26))))
def fS2170_L2240 (σ : LT) (τ : CT) (q12 : Int64) (n14 : Nat) (n15 : Nat) (n16 : Nat) (n17 : Nat) (w26 : Nat) (w28 : Int64) (σ2173 : LT) : Nat → Nat → Int64 → Int64 → Option ST
  | 0, k2240, a2240_28, a2240_30 => (fS2170_B2316 σ τ q12 n14 n15 n16 n17 w26 w28 σ2173 a2240_28 a2240_30 (if a2240_30 = (0 : Int64) then (q12 - a2240_28) else q12))
  | n2240 + 1, k2240, a2240_28, a2240_30 => lseq (fS2170_S2240 σ τ q12 n14 n15 n16 n17 w26 w28 σ2173 k2240 a2240_28 a2240_30) (fun q => fS2170_L2240 σ τ q12 n14 n15 n16 n17 w26 w28 σ2173 n2240 (k2240 + 1) q.1 q.2)
def fS2170_S2173 (σ : LT) (τ : CT) (q12 : Int64) (n14 : Nat) (n15 : Nat) (n16 : Nat) (n17 : Nat) (w26 : Nat) (w28 : Int64) (k2173 : Nat) (σ2173 : LT) : (LT) := (if (lK σ2173 3 (6 * k2173 + 2)) / 100 = w26 then (if (fL_covered σ2173 n14 k2173) = 0 then σ2173 else (lSK σ2173 3 (6 * k2173 + 5) ((lK σ2173 3 (6 * k2173 + 5)) ||| 4))) else σ2173)
def fS2170_L2173 (σ : LT) (τ : CT) (q12 : Int64) (n14 : Nat) (n15 : Nat) (n16 : Nat) (n17 : Nat) (w26 : Nat) (w28 : Int64) : Nat → Nat → LT → Option ST
  | 0, k2173, σ2173 => (fS2170_L2240 σ τ q12 n14 n15 n16 n17 w26 w28 σ2173 3 0 w28 (0 : Int64))
  | n2173 + 1, k2173, σ2173 => lseq (fS2170_S2173 σ τ q12 n14 n15 n16 n17 w26 w28 k2173 σ2173) (fun q => fS2170_L2173 σ τ q12 n14 n15 n16 n17 w26 w28 n2173 (k2173 + 1) q)
def fS2170 (σ : LT) (τ : CT) (q12 : Int64) (n14 : Nat) (n15 : Nat) (n16 : Nat) (n17 : Nat) (w26 : Nat) (w28 : Int64) : Option ST := (fS2170_L2173 σ τ q12 n14 n15 n16 n17 w26 w28 n15 0 σ)
set_option maxHeartbeats 4000000 in
set_option maxRecDepth 100000 in
theorem sS2170 {p : Program} {l : Launch} {e : Env} {s : State} {m : MethodId} {below : List Frame} {meth : Method} {c : Code} {b L : Nat} {xs : Nat → Int32} {Q : State → Prop} {D : va_G} {E : Nat → ClassId} {σ : LT} {τ : CT} {ad : Nat → Nat → Nat} {fa : Nat → Nat → Option Nat} {ar : Nat → Nat} {h : XW} {H : Heap} {locs : List Loc} {cells slots K Ks : Nat}  {q12 : Int64} {n14 n15 n16 n17 n18 n19 : Nat} {w26 : Nat} {w28 : Int64} {st : ST} {ls : Array Slot} (F : LF p l s m c b L xs) (I : XI s.heap.size D E h s H) (hL : RA E σ ar h) (hR : RC E (lPr ar) τ ad fa h) (hS : va_S (xA s.heap.size) s.heap H locs) (hW : LW σ) (hC : CW τ)  (h14 : n14 ≤ 12) (h15 : n15 ≤ 10) (h16 : n16 ≤ 10) (h17 : n17 < 300) (h18 : n18 < 1000) (h19 : n19 < 44) (h26 : w26 < 3) (hc1 : cells + 100 ≤ K) (hc2 : slots + 1000 ≤ Ks) (hK1 : K ≤ 600086) (hK2 : Ks ≤ 7301442) (hl : lv_has ls 39 [(0, .ref b), (1, .ref (ad 0 0)), (2, .ref (ar 0)), (3, .ref (ar 1)), (4, .ref (ar 2)), (5, .ref (ar 3)), (6, .ref (ar 4)), (7, .ref (ar 5)), (8, .ref (ar 6)), (9, .ref (ar 8)), (10, .ref (ar 7)), (11, .ref (ar 9)), (12, .long q12), (14, .int (nI n14)), (15, .int (nI n15)), (16, .int (nI n16)), (17, .int (nI n17)), (18, .int (nI n18)), (19, .int (nI n19)), (26, .int (nI w26)), (28, .long w28)]) (kk : lKK p l e s m below meth c b D E ar Q K Ks n18 n19 2560 st) (hG : fS2170 σ τ q12 n14 n15 n16 n17 w26 w28 = some st) : W p l e room_1 s m #[Value.ref b] below meth c H locs cells slots Q (F0 m 2170 ls []) := by
  obtain ⟨hx, hb, hml, hown, hts, hX, hbl, hCa, hlst, hLL⟩ := id F
  have hbA : ¬ xA s.heap.size b := Nat.not_le.mpr hbl
  unfold fS2170 at hG
  refine lv_iconst (v := (nI 0)) hx hb dL_law_2170 (by decide) ?_
  refine lv_istore (lv' := [(30, .int (nI 0)), (0, .ref b), (1, .ref (ad 0 0)), (2, .ref (ar 0)), (3, .ref (ar 1)), (4, .ref (ar 2)), (5, .ref (ar 3)), (6, .ref (ar 4)), (7, .ref (ar 5)), (8, .ref (ar 6)), (9, .ref (ar 8)), (10, .ref (ar 7)), (11, .ref (ar 9)), (12, .long q12), (14, .int (nI n14)), (15, .int (nI n15)), (16, .int (nI n16)), (17, .int (nI n17)), (18, .int (nI n18)), (19, .int (nI n19)), (26, .int (nI w26)), (28, .long w28)]) hx hb dL_law_2171 hl (by decide) rfl (fun ls hl => ?_)
  have L2173 : ∀ (n2173 : Nat) (k2173 : Nat) (σ2173 : LT), k2173 + n2173 = n15 → ∀ (ad : Nat → Nat → Nat) (fa : Nat → Nat → Option Nat) (H : Heap) (locs : List Loc) (hw : XW) (cells slots : Nat), XI s.heap.size D E hw s H → RA E σ2173 ar hw → RC E (lPr ar) τ ad fa hw → va_S (xA s.heap.size) s.heap H locs → LW σ2173 → cells + (60) ≤ K → slots + (600) ≤ Ks → fS2170_L2173 σ τ q12 n14 n15 n16 n17 w26 w28 n2173 k2173 σ2173 = some st → ∀ ls : Array Slot, lv_has ls 39 [(0, .ref b), (1, .ref (ad 0 0)), (2, .ref (ar 0)), (3, .ref (ar 1)), (4, .ref (ar 2)), (5, .ref (ar 3)), (6, .ref (ar 4)), (7, .ref (ar 5)), (8, .ref (ar 6)), (9, .ref (ar 8)), (10, .ref (ar 7)), (11, .ref (ar 9)), (12, .long q12), (14, .int (nI n14)), (15, .int (nI n15)), (16, .int (nI n16)), (17, .int (nI n17)), (18, .int (nI n18)), (19, .int (nI n19)), (26, .int (nI w26)), (28, .long w28), (30, .int (nI k2173))] → W p l e room_1 s m #[Value.ref b] below meth c H locs cells slots Q (F0 m 2173 ls []) := by
    intro n2173
    induction n2173 with
    | zero =>
      intro k2173 σ2173 hkn ad fa H locs hw cells slots I hL hR hS hW hc1 hc2 hG ls hl
      have hkN : k2173 = n15 := by omega
      have hG : (fS2170_L2240 σ τ q12 n14 n15 n16 n17 w26 w28 σ2173 3 0 w28 (0 : Int64)) = some st := hG
      refine lv_iload hx hb dL_law_2173 (lv_at hl 21 rfl) ?_
      refine lv_iload hx hb dL_law_2175 (lv_at hl 14 rfl) ?_
      refine lv_icmp_ge (tgt := 2234) hx hb dL_law_2177 (by decide) (fun _ => ?_) (fun q => absurd (nI_le (Nat.le_of_eq hkN.symm) (by omega)) q)
      refine lv_lconst (v := (0 : Int64)) hx hb dL_law_2234 rfl ?_
      refine lv_lstore (lv' := [(30, .long (0 : Int64)), (0, .ref b), (1, .ref (ad 0 0)), (2, .ref (ar 0)), (3, .ref (ar 1)), (4, .ref (ar 2)), (5, .ref (ar 3)), (6, .ref (ar 4)), (7, .ref (ar 5)), (8, .ref (ar 6)), (9, .ref (ar 8)), (10, .ref (ar 7)), (11, .ref (ar 9)), (12, .long q12), (14, .int (nI n14)), (15, .int (nI n15)), (16, .int (nI n16)), (17, .int (nI n17)), (18, .int (nI n18)), (19, .int (nI n19)), (26, .int (nI w26)), (28, .long w28)]) hx hb dL_law_2235 hl (by decide) rfl (fun ls hl => ?_)
      refine lv_iconst (v := (nI 0)) hx hb dL_law_2237 (by decide) ?_
      refine lv_istore (lv' := [(32, .int (nI 0)), (30, .long (0 : Int64)), (0, .ref b), (1, .ref (ad 0 0)), (2, .ref (ar 0)), (3, .ref (ar 1)), (4, .ref (ar 2)), (5, .ref (ar 3)), (6, .ref (ar 4)), (7, .ref (ar 5)), (8, .ref (ar 6)), (9, .ref (ar 8)), (10, .ref (ar 7)), (11, .ref (ar 9)), (12, .long q12), (14, .int (nI n14)), (15, .int (nI n15)), (16, .int (nI n16)), (17, .int (nI n17)), (18, .int (nI n18)), (19, .int (nI n19)), (26, .int (nI w26)), (28, .long w28)]) hx hb dL_law_2238 hl (by decide) rfl (fun ls hl => ?_)
      have L2240 : ∀ (n2240 : Nat) (k2240 : Nat) (a2240_28 : Int64) (a2240_30 : Int64), k2240 + n2240 = 3 → fS2170_L2240 σ τ q12 n14 n15 n16 n17 w26 w28 σ2173 n2240 k2240 a2240_28 a2240_30 = some st → ∀ ls : Array Slot, lv_has ls 39 [(0, .ref b), (1, .ref (ad 0 0)), (2, .ref (ar 0)), (3, .ref (ar 1)), (4, .ref (ar 2)), (5, .ref (ar 3)), (6, .ref (ar 4)), (7, .ref (ar 5)), (8, .ref (ar 6)), (9, .ref (ar 8)), (10, .ref (ar 7)), (11, .ref (ar 9)), (12, .long q12), (14, .int (nI n14)), (15, .int (nI n15)), (16, .int (nI n16)), (17, .int (nI n17)), (18, .int (nI n18)), (19, .int (nI n19)), (26, .int (nI w26)), (28, .long a2240_28), (30, .long a2240_30), (32, .int (nI k2240))] → W p l e room_1 s m #[Value.ref b] below meth c H locs cells slots Q (F0 m 2240 ls []) := by
        intro n2240
        induction n2240 with
        | zero =>
          intro k2240 a2240_28 a2240_30 hkn hG ls hl
          have hkN : k2240 = 3 := by omega
          have hG : (fS2170_B2316 σ τ q12 n14 n15 n16 n17 w26 w28 σ2173 a2240_28 a2240_30 (if a2240_30 = (0 : Int64) then (q12 - a2240_28) else q12)) = some st := hG
          refine lv_iload hx hb dL_law_2240 (lv_at hl 22 rfl) ?_
          refine lv_iconst (v := (nI 3)) hx hb dL_law_2242 (by decide) ?_
          refine lv_icmp_ge (tgt := 2302) hx hb dL_law_2243 (by decide) (fun _ => ?_) (fun q => absurd (nI_le (Nat.le_of_eq hkN.symm) (by omega)) q)
          refine lv_lload hx hb dL_law_2302 (lv_at hl 21 rfl) ?_
          refine lv_lconst (v := (0 : Int64)) hx hb dL_law_2304 rfl ?_
          have B2316 : ∀ (w2316_12 : Int64), fS2170_B2316 σ τ q12 n14 n15 n16 n17 w26 w28 σ2173 a2240_28 a2240_30 w2316_12 = some st → ∀ ls : Array Slot, lv_has ls 39 [(0, .ref b), (1, .ref (ad 0 0)), (2, .ref (ar 0)), (3, .ref (ar 1)), (4, .ref (ar 2)), (5, .ref (ar 3)), (6, .ref (ar 4)), (7, .ref (ar 5)), (8, .ref (ar 6)), (9, .ref (ar 8)), (10, .ref (ar 7)), (11, .ref (ar 9)), (12, .long w2316_12), (14, .int (nI n14)), (15, .int (nI n15)), (16, .int (nI n16)), (17, .int (nI n17)), (18, .int (nI n18)), (19, .int (nI n19)), (26, .int (nI w26)), (28, .long a2240_28), (30, .long a2240_30)] → W p l e room_1 s m #[Value.ref b] below meth c H locs cells slots Q (F0 m 2316 ls []) := by
            intro w2316_12 hG ls hl
            unfold fS2170_B2316 at hG
            refine lv_lload hx hb dL_law_2316 (lv_at hl 20 rfl) ?_
            refine lv_lstore (lv' := [(32, .long a2240_28), (0, .ref b), (1, .ref (ad 0 0)), (2, .ref (ar 0)), (3, .ref (ar 1)), (4, .ref (ar 2)), (5, .ref (ar 3)), (6, .ref (ar 4)), (7, .ref (ar 5)), (8, .ref (ar 6)), (9, .ref (ar 8)), (10, .ref (ar 7)), (11, .ref (ar 9)), (12, .long w2316_12), (14, .int (nI n14)), (15, .int (nI n15)), (16, .int (nI n16)), (17, .int (nI n17)), (18, .int (nI n18)), (19, .int (nI n19)), (26, .int (nI w26)), (28, .long a2240_28), (30, .long a2240_30)]) hx hb dL_law_2318 hl (by decide) rfl (fun ls hl => ?_)
            refine lv_iconst (v := (nI 0)) hx hb dL_law_2320 (by decide) ?_
            refine lv_istore (lv' := [(34, .int (nI 0)), (32, .long a2240_28), (0, .ref b), (1, .ref (ad 0 0)), (2, .ref (ar 0)), (3, .ref (ar 1)), (4, .ref (ar 2)), (5, .ref (ar 3)), (6, .ref (ar 4)), (7, .ref (ar 5)), (8, .ref (ar 6)), (9, .ref (ar 8)), (10, .ref (ar 7)), (11, .ref (ar 9)), (12, .long w2316_12), (14, .int (nI n14)), (15, .int (nI n15)), (16, .int (nI n16)), (17, .int (nI n17)), (18, .int (nI n18)), (19, .int (nI n19)), (26, .int (nI w26)), (28, .long a2240_28), (30, .long a2240_30)]) hx hb dL_law_2321 hl (by decide) rfl (fun ls hl => ?_)
            have B2440 : ∀ (w2440_32 : Int64) (σ2440 : LT), ∀ (ad : Nat → Nat → Nat) (fa : Nat → Nat → Option Nat) (H : Heap) (locs : List Loc) (hw : XW) (cells slots : Nat), XI s.heap.size D E hw s H → RA E σ2440 ar hw → RC E (lPr ar) τ ad fa hw → va_S (xA s.heap.size) s.heap H locs → LW σ2440 → cells + (60) ≤ K → slots + (600) ≤ Ks → fS2170_B2440 σ τ q12 n14 n15 n16 n17 w26 w28 a2240_30 w2316_12 w2440_32 σ2440 = some st → ∀ ls : Array Slot, lv_has ls 39 [(0, .ref b), (1, .ref (ad 0 0)), (2, .ref (ar 0)), (3, .ref (ar 1)), (4, .ref (ar 2)), (5, .ref (ar 3)), (6, .ref (ar 4)), (7, .ref (ar 5)), (8, .ref (ar 6)), (9, .ref (ar 8)), (10, .ref (ar 7)), (11, .ref (ar 9)), (12, .long w2316_12), (14, .int (nI n14)), (15, .int (nI n15)), (16, .int (nI n16)), (17, .int (nI n17)), (18, .int (nI n18)), (19, .int (nI n19)), (26, .int (nI w26)), (30, .long a2240_30), (32, .long w2440_32)] → W p l e room_1 s m #[Value.ref b] below meth c H locs cells slots Q (F0 m 2440 ls []) := by
              intro w2440_32 σ2440 ad fa H locs hw cells slots I hL hR hS hW hc1 hc2 hG ls hl
              unfold fS2170_B2440 at hG
              refine lv_iconst (v := (nI 0)) hx hb dL_law_2440 (by decide) ?_
              refine lv_istore (lv' := [(34, .int (nI 0)), (0, .ref b), (1, .ref (ad 0 0)), (2, .ref (ar 0)), (3, .ref (ar 1)), (4, .ref (ar 2)), (5, .ref (ar 3)), (6, .ref (ar 4)), (7, .ref (ar 5)), (8, .ref (ar 6)), (9, .ref (ar 8)), (10, .ref (ar 7)), (11, .ref (ar 9)), (12, .long w2316_12), (14, .int (nI n14)), (15, .int (nI n15)), (16, .int (nI n16)), (17, .int (nI n17)), (18, .int (nI n18)), (19, .int (nI n19)), (26, .int (nI w26)), (30, .long a2240_30), (32, .long w2440_32)]) hx hb dL_law_2441 hl (by decide) rfl (fun ls hl => ?_)
              have B2506 : ∀ (σ2506 : LT), ∀ (ad : Nat → Nat → Nat) (fa : Nat → Nat → Option Nat) (H : Heap) (locs : List Loc) (hw : XW) (cells slots : Nat), XI s.heap.size D E hw s H → RA E σ2506 ar hw → RC E (lPr ar) τ ad fa hw → va_S (xA s.heap.size) s.heap H locs → LW σ2506 → cells + (60) ≤ K → slots + (600) ≤ Ks → fS2170_B2506 σ τ q12 n14 n15 n16 n17 w26 w28 w2316_12 σ2506 = some st → ∀ ls : Array Slot, lv_has ls 39 [(0, .ref b), (1, .ref (ad 0 0)), (2, .ref (ar 0)), (3, .ref (ar 1)), (4, .ref (ar 2)), (5, .ref (ar 3)), (6, .ref (ar 4)), (7, .ref (ar 5)), (8, .ref (ar 6)), (9, .ref (ar 8)), (10, .ref (ar 7)), (11, .ref (ar 9)), (12, .long w2316_12), (14, .int (nI n14)), (15, .int (nI n15)), (16, .int (nI n16)), (17, .int (nI n17)), (18, .int (nI n18)), (19, .int (nI n19)), (26, .int (nI w26))] → W p l e room_1 s m #[Value.ref b] below meth c H locs cells slots Q (F0 m 2506 ls []) := by
                intro σ2506 ad fa H locs hw cells slots I hL hR hS hW hc1 hc2 hG ls hl
                unfold fS2170_B2506 at hG
                refine lv_aload hx hb dL_law_2506 (lv_at hl 10 rfl) ?_
                refine lv_bipush (v := (nI 12)) hx hb dL_law_2508 (by decide) ?_
                refine lv_iload hx hb dL_law_2510 (lv_at hl 19 rfl) ?_
                refine lv_iconst (v := (nI 1)) hx hb dL_law_2512 (by decide) ?_
                refine lv_iadd hx hb dL_law_2513 ?_
                refine xtop (y := .int (nI (w26 + 1))) (congrArg Value.int (nI_add _ _)) ?_
                refine xiS (x := (nI (w26 + 1))) (i := 12) (n := 16) 7 hx hb I hS hL hR (by decide) (by omega) (by decide) dL_law_2514 (fun H locs hw I hL hR hS => ?_)
                have hW : LW (lSI σ2506 7 12 (nI (w26 + 1))) := hW.sF (w26 + 1) (by omega)
                refine lv_goto (tgt := 2560) hx hb dL_law_2515 (by decide) ?_
                have hst := Option.some.inj (show some ((lSI σ2506 7 12 (nI (w26 + 1))), τ, w2316_12, n14, n15, n16, n17) = some st from hG)
                subst hst
                exact W.widen (by omega) (by omega) (kk _ _ _ _ _ _ I hL hR hS hW hC (lv_sub hl [0, 1, 2, 3, 4, 5, 6, 7, 8, 9, 10, 11, 12, 13, 14, 15, 16, 17, 18] rfl))
              have L2443 : ∀ (n2443 : Nat) (k2443 : Nat) (a2443_32 : Int64) (σ2443 : LT), k2443 + n2443 = 3 → ∀ (ad : Nat → Nat → Nat) (fa : Nat → Nat → Option Nat) (H : Heap) (locs : List Loc) (hw : XW) (cells slots : Nat), XI s.heap.size D E hw s H → RA E σ2443 ar hw → RC E (lPr ar) τ ad fa hw → va_S (xA s.heap.size) s.heap H locs → LW σ2443 → cells + (60) ≤ K → slots + (600) ≤ Ks → fS2170_L2443 σ τ q12 n14 n15 n16 n17 w26 w28 a2240_30 w2316_12 n2443 k2443 a2443_32 σ2443 = some st → ∀ ls : Array Slot, lv_has ls 39 [(0, .ref b), (1, .ref (ad 0 0)), (2, .ref (ar 0)), (3, .ref (ar 1)), (4, .ref (ar 2)), (5, .ref (ar 3)), (6, .ref (ar 4)), (7, .ref (ar 5)), (8, .ref (ar 6)), (9, .ref (ar 8)), (10, .ref (ar 7)), (11, .ref (ar 9)), (12, .long w2316_12), (14, .int (nI n14)), (15, .int (nI n15)), (16, .int (nI n16)), (17, .int (nI n17)), (18, .int (nI n18)), (19, .int (nI n19)), (26, .int (nI w26)), (30, .long a2240_30), (32, .long a2443_32), (34, .int (nI k2443))] → W p l e room_1 s m #[Value.ref b] below meth c H locs cells slots Q (F0 m 2443 ls []) := by
                intro n2443
                induction n2443 with
                | zero =>
                  intro k2443 a2443_32 σ2443 hkn ad fa H locs hw cells slots I hL hR hS hW hc1 hc2 hG ls hl
                  have hkN : k2443 = 3 := by omega
                  have hG : (fS2170_B2506 σ τ q12 n14 n15 n16 n17 w26 w28 w2316_12 σ2443) = some st := hG
                  refine lv_iload hx hb dL_law_2443 (lv_at hl 22 rfl) ?_
                  refine lv_iconst (v := (nI 3)) hx hb dL_law_2445 (by decide) ?_
                  refine lv_icmp_ge (tgt := 2506) hx hb dL_law_2446 (by decide) (fun _ => ?_) (fun q => absurd (nI_le (Nat.le_of_eq hkN.symm) (by omega)) q)
                  exact B2506 σ2443 ad fa H locs hw cells slots I hL hR hS hW (by omega) (by omega) hG ls (lv_sub hl [0, 1, 2, 3, 4, 5, 6, 7, 8, 9, 10, 11, 12, 13, 14, 15, 16, 17, 18, 19] rfl)
                | succ n2443 ih2443 =>
                  intro k2443 a2443_32 σ2443 hkn ad fa H locs hw cells slots I hL hR hS hW hc1 hc2 hG ls hl
                  have hk : k2443 < 3 := by omega
                  have hG : lbind ((if a2240_30 ≤ (0 : Int64) then (Sum.inr (fS2170_B2506 σ τ q12 n14 n15 n16 n17 w26 w28 w2316_12 σ2443)) else (if a2443_32 ≤ (0 : Int64) then (Sum.inr (fS2170_B2506 σ τ q12 n14 n15 n16 n17 w26 w28 w2316_12 σ2443)) else (Sum.inl ((if (lI σ2443 7 (3 * k2443 + w26)) = (nI 2) then (a2443_32 - (1 : Int64)) else a2443_32), (if (lI σ2443 7 (3 * k2443 + w26)) = (nI 2) then (lSL σ2443 8 (3 * k2443 + w26) ((lL σ2443 8 (3 * k2443 + w26)) + (1 : Int64))) else σ2443)))))) (fun q => fS2170_L2443 σ τ q12 n14 n15 n16 n17 w26 w28 a2240_30 w2316_12 n2443 (k2443 + 1) q.1 q.2) = some st := hG
                  refine lv_iload hx hb dL_law_2443 (lv_at hl 22 rfl) ?_
                  refine lv_iconst (v := (nI 3)) hx hb dL_law_2445 (by decide) ?_
                  refine lv_icmp_ge (tgt := 2506) hx hb dL_law_2446 (by decide) (fun q => absurd q (nI_ge hk (by omega))) (fun _ => ?_)
                  refine lv_lload hx hb dL_law_2449 (lv_at hl 20 rfl) ?_
                  refine lv_lconst (v := (0 : Int64)) hx hb dL_law_2451 rfl ?_
                  refine xl_le (tgt := 2506) hx hb dL_law_2452 dL_law_2453 (by decide) (fun c_2452 => ?_) (fun c_2452 => ?_)
                  · skip
                    rw [if_pos c_2452] at hG
                    exact B2506 σ2443 ad fa H locs hw cells slots I hL hR hS hW (by omega) (by omega) hG ls (lv_sub hl [0, 1, 2, 3, 4, 5, 6, 7, 8, 9, 10, 11, 12, 13, 14, 15, 16, 17, 18, 19] rfl)
                  · skip
                    rw [if_neg c_2452] at hG
                    refine lv_lload hx hb dL_law_2456 (lv_at hl 21 rfl) ?_
                    refine lv_lconst (v := (0 : Int64)) hx hb dL_law_2458 rfl ?_
                    refine xl_le (tgt := 2506) hx hb dL_law_2459 dL_law_2460 (by decide) (fun c_2459 => ?_) (fun c_2459 => ?_)
                    · skip
                      rw [if_pos c_2459] at hG
                      exact B2506 σ2443 ad fa H locs hw cells slots I hL hR hS hW (by omega) (by omega) hG ls (lv_sub hl [0, 1, 2, 3, 4, 5, 6, 7, 8, 9, 10, 11, 12, 13, 14, 15, 16, 17, 18, 19] rfl)
                    · skip
                      rw [if_neg c_2459] at hG
                      refine lv_aload hx hb dL_law_2463 (lv_at hl 10 rfl) ?_
                      refine lv_iconst (v := (nI 3)) hx hb dL_law_2465 (by decide) ?_
                      refine lv_iload hx hb dL_law_2466 (lv_at hl 22 rfl) ?_
                      refine lv_imul hx hb dL_law_2468 ?_
                      refine xtop (y := .int (nI (3 * k2443))) (congrArg Value.int (pk_mul _ _)) ?_
                      refine lv_iload hx hb dL_law_2469 (lv_at hl 19 rfl) ?_
                      refine lv_iadd hx hb dL_law_2471 ?_
                      refine xtop (y := .int (nI (3 * k2443 + w26))) (congrArg Value.int (nI_add _ _)) ?_
                      refine xiald (i := (3 * k2443 + w26)) (n := 16) hx hb I (hL.2.1 7 16 (by decide)) (by omega) (by decide) dL_law_2472 ?_
                      refine lv_iconst (v := (nI 2)) hx hb dL_law_2473 (by decide) ?_
                      refine lv_icmp_eq (tgt := 2480) hx hb dL_law_2474 (by decide) (fun c_2474 => ?_) (fun c_2474 => ?_)
                      · skip
                        rw [if_pos c_2474] at hG; rw [if_pos c_2474] at hG
                        refine lv_aload hx hb dL_law_2480 (lv_at hl 9 rfl) ?_
                        refine lv_iconst (v := (nI 3)) hx hb dL_law_2482 (by decide) ?_
                        refine lv_iload hx hb dL_law_2483 (lv_at hl 22 rfl) ?_
                        refine lv_imul hx hb dL_law_2485 ?_
                        refine xtop (y := .int (nI (3 * k2443))) (congrArg Value.int (pk_mul _ _)) ?_
                        refine lv_iload hx hb dL_law_2486 (lv_at hl 19 rfl) ?_
                        refine lv_iadd hx hb dL_law_2488 ?_
                        refine xtop (y := .int (nI (3 * k2443 + w26))) (congrArg Value.int (nI_add _ _)) ?_
                        refine lv_dup2_11 hx hb dL_law_2489 rfl rfl ?_
                        refine xlald (i := (3 * k2443 + w26)) (n := 9) hx hb I (hL.2.2.1 8 9 (by decide)) (by omega) (by decide) dL_law_2490 ?_
                        refine lv_lconst (v := (1 : Int64)) hx hb dL_law_2491 rfl ?_
                        refine lv_ladd hx hb dL_law_2492 ?_
                        refine xlS (x := ((lL σ2443 8 (3 * k2443 + w26)) + (1 : Int64))) (i := (3 * k2443 + w26)) (n := 9) 8 hx hb I hS hL hR (by decide) (by omega) (by decide) dL_law_2493 (fun H locs hw I hL hR hS => ?_)
                        have hW : LW (lSL σ2443 8 (3 * k2443 + w26) ((lL σ2443 8 (3 * k2443 + w26)) + (1 : Int64))) := hW.sL 8 (3 * k2443 + w26) ((lL σ2443 8 (3 * k2443 + w26)) + (1 : Int64))
                        refine lv_lload hx hb dL_law_2494 (lv_at hl 21 rfl) ?_
                        refine lv_lconst (v := (1 : Int64)) hx hb dL_law_2496 rfl ?_
                        refine lv_lsub hx hb dL_law_2497 ?_
                        refine lv_lstore (lv' := [(32, .long (a2443_32 - (1 : Int64))), (0, .ref b), (1, .ref (ad 0 0)), (2, .ref (ar 0)), (3, .ref (ar 1)), (4, .ref (ar 2)), (5, .ref (ar 3)), (6, .ref (ar 4)), (7, .ref (ar 5)), (8, .ref (ar 6)), (9, .ref (ar 8)), (10, .ref (ar 7)), (11, .ref (ar 9)), (12, .long w2316_12), (14, .int (nI n14)), (15, .int (nI n15)), (16, .int (nI n16)), (17, .int (nI n17)), (18, .int (nI n18)), (19, .int (nI n19)), (26, .int (nI w26)), (30, .long a2240_30), (34, .int (nI k2443))]) hx hb dL_law_2498 hl (by decide) rfl (fun ls hl => ?_)
                        refine lv_iinc (v := (nI (k2443 + 1))) (lv' := [(34, .int (nI (k2443 + 1))), (32, .long (a2443_32 - (1 : Int64))), (0, .ref b), (1, .ref (ad 0 0)), (2, .ref (ar 0)), (3, .ref (ar 1)), (4, .ref (ar 2)), (5, .ref (ar 3)), (6, .ref (ar 4)), (7, .ref (ar 5)), (8, .ref (ar 6)), (9, .ref (ar 8)), (10, .ref (ar 7)), (11, .ref (ar 9)), (12, .long w2316_12), (14, .int (nI n14)), (15, .int (nI n15)), (16, .int (nI n16)), (17, .int (nI n17)), (18, .int (nI n18)), (19, .int (nI n19)), (26, .int (nI w26)), (30, .long a2240_30)]) hx hb dL_law_2500 hl (k := 22) rfl (nI_succ k2443).symm (by decide) rfl (fun ls hl => ?_)
                        refine lv_goto (tgt := 2443) hx hb dL_law_2503 (by decide) ?_
                        exact ih2443 (k2443 + 1) (a2443_32 - (1 : Int64)) (lSL σ2443 8 (3 * k2443 + w26) ((lL σ2443 8 (3 * k2443 + w26)) + (1 : Int64))) (by first | omega | (simp only [lSI_K]; omega)) ad fa H locs hw cells slots I hL hR hS hW (by omega) (by omega) hG ls (lv_sub hl [2, 3, 4, 5, 6, 7, 8, 9, 10, 11, 12, 13, 14, 15, 16, 17, 18, 19, 20, 21, 22, 1, 0] rfl)
                      · skip
                        rw [if_neg c_2474] at hG; rw [if_neg c_2474] at hG
                        refine lv_goto (tgt := 2500) hx hb dL_law_2477 (by decide) ?_
                        refine lv_iinc (v := (nI (k2443 + 1))) (lv' := [(34, .int (nI (k2443 + 1))), (0, .ref b), (1, .ref (ad 0 0)), (2, .ref (ar 0)), (3, .ref (ar 1)), (4, .ref (ar 2)), (5, .ref (ar 3)), (6, .ref (ar 4)), (7, .ref (ar 5)), (8, .ref (ar 6)), (9, .ref (ar 8)), (10, .ref (ar 7)), (11, .ref (ar 9)), (12, .long w2316_12), (14, .int (nI n14)), (15, .int (nI n15)), (16, .int (nI n16)), (17, .int (nI n17)), (18, .int (nI n18)), (19, .int (nI n19)), (26, .int (nI w26)), (30, .long a2240_30), (32, .long a2443_32)]) hx hb dL_law_2500 hl (k := 22) rfl (nI_succ k2443).symm (by decide) rfl (fun ls hl => ?_)
                        refine lv_goto (tgt := 2443) hx hb dL_law_2503 (by decide) ?_
                        exact ih2443 (k2443 + 1) a2443_32 σ2443 (by first | omega | (simp only [lSI_K]; omega)) ad fa H locs hw cells slots I hL hR hS hW (by omega) (by omega) hG ls (lv_sub hl [1, 2, 3, 4, 5, 6, 7, 8, 9, 10, 11, 12, 13, 14, 15, 16, 17, 18, 19, 20, 21, 22, 0] rfl)
              exact L2443 3 0 w2440_32 σ2440 (by omega) ad fa H locs hw cells slots I hL hR hS hW (by omega) (by omega) hG ls (lv_sub hl [1, 2, 3, 4, 5, 6, 7, 8, 9, 10, 11, 12, 13, 14, 15, 16, 17, 18, 19, 20, 21, 22, 0] rfl)
            have L2323 : ∀ (n2323 : Nat) (k2323 : Nat) (a2323_32 : Int64) (σ2323 : LT), k2323 + n2323 = 3 → ∀ (ad : Nat → Nat → Nat) (fa : Nat → Nat → Option Nat) (H : Heap) (locs : List Loc) (hw : XW) (cells slots : Nat), XI s.heap.size D E hw s H → RA E σ2323 ar hw → RC E (lPr ar) τ ad fa hw → va_S (xA s.heap.size) s.heap H locs → LW σ2323 → cells + (60) ≤ K → slots + (600) ≤ Ks → fS2170_L2323 σ τ q12 n14 n15 n16 n17 w26 w28 a2240_28 a2240_30 w2316_12 n2323 k2323 a2323_32 σ2323 = some st → ∀ ls : Array Slot, lv_has ls 39 [(0, .ref b), (1, .ref (ad 0 0)), (2, .ref (ar 0)), (3, .ref (ar 1)), (4, .ref (ar 2)), (5, .ref (ar 3)), (6, .ref (ar 4)), (7, .ref (ar 5)), (8, .ref (ar 6)), (9, .ref (ar 8)), (10, .ref (ar 7)), (11, .ref (ar 9)), (12, .long w2316_12), (14, .int (nI n14)), (15, .int (nI n15)), (16, .int (nI n16)), (17, .int (nI n17)), (18, .int (nI n18)), (19, .int (nI n19)), (26, .int (nI w26)), (28, .long a2240_28), (30, .long a2240_30), (32, .long a2323_32), (34, .int (nI k2323))] → W p l e room_1 s m #[Value.ref b] below meth c H locs cells slots Q (F0 m 2323 ls []) := by
              intro n2323
              induction n2323 with
              | zero =>
                intro k2323 a2323_32 σ2323 hkn ad fa H locs hw cells slots I hL hR hS hW hc1 hc2 hG ls hl
                have hkN : k2323 = 3 := by omega
                have hG : (fS2170_B2440 σ τ q12 n14 n15 n16 n17 w26 w28 a2240_30 w2316_12 a2323_32 σ2323) = some st := hG
                refine lv_iload hx hb dL_law_2323 (lv_at hl 23 rfl) ?_
                refine lv_iconst (v := (nI 3)) hx hb dL_law_2325 (by decide) ?_
                refine lv_icmp_ge (tgt := 2440) hx hb dL_law_2326 (by decide) (fun _ => ?_) (fun q => absurd (nI_le (Nat.le_of_eq hkN.symm) (by omega)) q)
                exact B2440 a2323_32 σ2323 ad fa H locs hw cells slots I hL hR hS hW (by omega) (by omega) hG ls (lv_sub hl [0, 1, 2, 3, 4, 5, 6, 7, 8, 9, 10, 11, 12, 13, 14, 15, 16, 17, 18, 19, 21, 22] rfl)
              | succ n2323 ih2323 =>
                intro k2323 a2323_32 σ2323 hkn ad fa H locs hw cells slots I hL hR hS hW hc1 hc2 hG ls hl
                have hk : k2323 < 3 := by omega
                have hG : lbind ((if a2240_30 ≤ (0 : Int64) then (Sum.inr (fS2170_B2440 σ τ q12 n14 n15 n16 n17 w26 w28 a2240_30 w2316_12 a2323_32 σ2323)) else (if (lI σ2323 7 (3 * k2323 + w26)) = (nI 1) then (Sum.inl (a2323_32, σ2323)) else (if (fL_weight σ2323 n14 k2323 w26) = (0 : Int64) then (Sum.inl (a2323_32, σ2323)) else (fS2170_B2404 σ τ q12 n14 n15 n16 n17 w26 w28 k2323 a2323_32 σ2323 (if (0 : Int64) ≤ ((a2240_28 * (fL_weight σ2323 n14 k2323 w26)) - (a2240_28 * (fL_weight σ2323 n14 k2323 w26)) / a2240_30 * a2240_30) then ((a2240_28 * (fL_weight σ2323 n14 k2323 w26)) / a2240_30) else (((a2240_28 * (fL_weight σ2323 n14 k2323 w26)) / a2240_30) - (1 : Int64)))))))) (fun q => fS2170_L2323 σ τ q12 n14 n15 n16 n17 w26 w28 a2240_28 a2240_30 w2316_12 n2323 (k2323 + 1) q.1 q.2) = some st := hG
                refine lv_iload hx hb dL_law_2323 (lv_at hl 23 rfl) ?_
                refine lv_iconst (v := (nI 3)) hx hb dL_law_2325 (by decide) ?_
                refine lv_icmp_ge (tgt := 2440) hx hb dL_law_2326 (by decide) (fun q => absurd q (nI_ge hk (by omega))) (fun _ => ?_)
                refine lv_lload hx hb dL_law_2329 (lv_at hl 21 rfl) ?_
                refine lv_lconst (v := (0 : Int64)) hx hb dL_law_2331 rfl ?_
                refine xl_le (tgt := 2440) hx hb dL_law_2332 dL_law_2333 (by decide) (fun c_2332 => ?_) (fun c_2332 => ?_)
                · skip
                  rw [if_pos c_2332] at hG
                  exact B2440 a2323_32 σ2323 ad fa H locs hw cells slots I hL hR hS hW (by omega) (by omega) hG ls (lv_sub hl [0, 1, 2, 3, 4, 5, 6, 7, 8, 9, 10, 11, 12, 13, 14, 15, 16, 17, 18, 19, 21, 22] rfl)
                · skip
                  rw [if_neg c_2332] at hG
                  refine lv_aload_n hx hb dL_law_2336 rfl (lv_at hl 2 rfl) ?_
                  refine lv_iload hx hb dL_law_2337 (lv_at hl 13 rfl) ?_
                  refine lv_aload_n hx hb dL_law_2339 rfl (lv_at hl 3 rfl) ?_
                  refine lv_aload hx hb dL_law_2340 (lv_at hl 4 rfl) ?_
                  refine lv_iload hx hb dL_law_2342 (lv_at hl 23 rfl) ?_
                  refine lv_iload hx hb dL_law_2344 (lv_at hl 19 rfl) ?_
                  refine xcsR (As := [.ref (ar 0), .int (nI n14), .ref (ar 1), .ref (ar 2), .int (nI k2323), .int (nI w26)]) (rest := []) (v := some (.long (fL_weight σ2323 n14 k2323 w26))) ⟨hx, hb, hml, hown, hts⟩ (mL_weight l s.heap.size D E hw σ2323 ar hL hW n14 k2323 w26 (by first | assumption | omega) (by first | assumption | omega) (by first | assumption | omega)) (va_cwS 6 hts gL_law_L_weight rfl rfl rfl (by decide +kernel) ⟨Nat.le_of_ble_eq_true rfl, Nat.le_of_ble_eq_true rfl⟩) I rfl hl.1 rfl (Nat.le_of_ble_eq_true rfl) dL_law_2346 ⟨show cells + 0 ≤ 600086 by omega, show slots + 0 ≤ 7301442 by omega⟩ ?_
                  refine W.eq (g2 := F0 m 2349 ls [.long (fL_weight σ2323 n14 k2323 w26)]) rfl ?_
                  refine lv_lstore (lv' := [(35, .long (fL_weight σ2323 n14 k2323 w26)), (0, .ref b), (1, .ref (ad 0 0)), (2, .ref (ar 0)), (3, .ref (ar 1)), (4, .ref (ar 2)), (5, .ref (ar 3)), (6, .ref (ar 4)), (7, .ref (ar 5)), (8, .ref (ar 6)), (9, .ref (ar 8)), (10, .ref (ar 7)), (11, .ref (ar 9)), (12, .long w2316_12), (14, .int (nI n14)), (15, .int (nI n15)), (16, .int (nI n16)), (17, .int (nI n17)), (18, .int (nI n18)), (19, .int (nI n19)), (26, .int (nI w26)), (28, .long a2240_28), (30, .long a2240_30), (32, .long a2323_32), (34, .int (nI k2323))]) hx hb dL_law_2349 hl (by decide) rfl (fun ls hl => ?_)
                  refine lv_aload hx hb dL_law_2351 (lv_at hl 11 rfl) ?_
                  refine lv_iconst (v := (nI 3)) hx hb dL_law_2353 (by decide) ?_
                  refine lv_iload hx hb dL_law_2354 (lv_at hl 24 rfl) ?_
                  refine lv_imul hx hb dL_law_2356 ?_
                  refine xtop (y := .int (nI (3 * k2323))) (congrArg Value.int (pk_mul _ _)) ?_
                  refine lv_iload hx hb dL_law_2357 (lv_at hl 20 rfl) ?_
                  refine lv_iadd hx hb dL_law_2359 ?_
                  refine xtop (y := .int (nI (3 * k2323 + w26))) (congrArg Value.int (nI_add _ _)) ?_
                  refine xiald (i := (3 * k2323 + w26)) (n := 16) hx hb I (hL.2.1 7 16 (by decide)) (by omega) (by decide) dL_law_2360 ?_
                  refine lv_iconst (v := (nI 1)) hx hb dL_law_2361 (by decide) ?_
                  refine lv_icmp_eq (tgt := 2434) hx hb dL_law_2362 (by decide) (fun c_2362 => ?_) (fun c_2362 => ?_)
                  · skip
                    rw [if_pos c_2362] at hG
                    refine lv_iinc (v := (nI (k2323 + 1))) (lv' := [(34, .int (nI (k2323 + 1))), (35, .long (fL_weight σ2323 n14 k2323 w26)), (0, .ref b), (1, .ref (ad 0 0)), (2, .ref (ar 0)), (3, .ref (ar 1)), (4, .ref (ar 2)), (5, .ref (ar 3)), (6, .ref (ar 4)), (7, .ref (ar 5)), (8, .ref (ar 6)), (9, .ref (ar 8)), (10, .ref (ar 7)), (11, .ref (ar 9)), (12, .long w2316_12), (14, .int (nI n14)), (15, .int (nI n15)), (16, .int (nI n16)), (17, .int (nI n17)), (18, .int (nI n18)), (19, .int (nI n19)), (26, .int (nI w26)), (28, .long a2240_28), (30, .long a2240_30), (32, .long a2323_32)]) hx hb dL_law_2434 hl (k := 24) rfl (nI_succ k2323).symm (by decide) rfl (fun ls hl => ?_)
                    refine lv_goto (tgt := 2323) hx hb dL_law_2437 (by decide) ?_
                    exact ih2323 (k2323 + 1) a2323_32 σ2323 (by first | omega | (simp only [lSI_K]; omega)) ad fa H locs hw cells slots I hL hR hS hW (by omega) (by omega) hG ls (lv_sub hl [2, 3, 4, 5, 6, 7, 8, 9, 10, 11, 12, 13, 14, 15, 16, 17, 18, 19, 20, 21, 22, 23, 24, 0] rfl)
                  · skip
                    rw [if_neg c_2362] at hG
                    refine lv_lload hx hb dL_law_2365 (lv_at hl 0 rfl) ?_
                    refine lv_lconst (v := (0 : Int64)) hx hb dL_law_2367 rfl ?_
                    refine xl_ne (tgt := 2375) hx hb dL_law_2368 dL_law_2369 (by decide) (fun c_2368 => ?_) (fun c_2368 => ?_)
                    · skip
                      rw [if_neg c_2368] at hG
                      refine lv_lload hx hb dL_law_2375 (lv_at hl 21 rfl) ?_
                      refine lv_lload hx hb dL_law_2377 (lv_at hl 0 rfl) ?_
                      refine lv_lmul hx hb dL_law_2379 ?_
                      refine lv_lload hx hb dL_law_2380 (lv_at hl 22 rfl) ?_
                      refine lv_ldiv hx hb dL_law_2382 (fun z => by rw [z] at c_2332; exact absurd c_2332 (by decide)) ?_
                      refine lv_lstore (lv' := [(37, .long ((a2240_28 * (fL_weight σ2323 n14 k2323 w26)) / a2240_30)), (35, .long (fL_weight σ2323 n14 k2323 w26)), (0, .ref b), (1, .ref (ad 0 0)), (2, .ref (ar 0)), (3, .ref (ar 1)), (4, .ref (ar 2)), (5, .ref (ar 3)), (6, .ref (ar 4)), (7, .ref (ar 5)), (8, .ref (ar 6)), (9, .ref (ar 8)), (10, .ref (ar 7)), (11, .ref (ar 9)), (12, .long w2316_12), (14, .int (nI n14)), (15, .int (nI n15)), (16, .int (nI n16)), (17, .int (nI n17)), (18, .int (nI n18)), (19, .int (nI n19)), (26, .int (nI w26)), (28, .long a2240_28), (30, .long a2240_30), (32, .long a2323_32), (34, .int (nI k2323))]) hx hb dL_law_2383 hl (by decide) rfl (fun ls hl => ?_)
                      refine lv_lload hx hb dL_law_2385 (lv_at hl 22 rfl) ?_
                      refine lv_lload hx hb dL_law_2387 (lv_at hl 1 rfl) ?_
                      refine lv_lmul hx hb dL_law_2389 ?_
                      refine lv_lload hx hb dL_law_2390 (lv_at hl 23 rfl) ?_
                      refine lv_lrem hx hb dL_law_2392 (fun z => by rw [z] at c_2332; exact absurd c_2332 (by decide)) ?_
                      refine lv_lconst (v := (0 : Int64)) hx hb dL_law_2393 rfl ?_
                      have B2404 : ∀ (w2404_37 : Int64), lbind (fS2170_B2404 σ τ q12 n14 n15 n16 n17 w26 w28 k2323 a2323_32 σ2323 w2404_37) (fun q => fS2170_L2323 σ τ q12 n14 n15 n16 n17 w26 w28 a2240_28 a2240_30 w2316_12 n2323 (k2323 + 1) q.1 q.2) = some st → ∀ ls : Array Slot, lv_has ls 39 [(0, .ref b), (1, .ref (ad 0 0)), (2, .ref (ar 0)), (3, .ref (ar 1)), (4, .ref (ar 2)), (5, .ref (ar 3)), (6, .ref (ar 4)), (7, .ref (ar 5)), (8, .ref (ar 6)), (9, .ref (ar 8)), (10, .ref (ar 7)), (11, .ref (ar 9)), (12, .long w2316_12), (14, .int (nI n14)), (15, .int (nI n15)), (16, .int (nI n16)), (17, .int (nI n17)), (18, .int (nI n18)), (19, .int (nI n19)), (26, .int (nI w26)), (28, .long a2240_28), (30, .long a2240_30), (32, .long a2323_32), (34, .int (nI k2323)), (37, .long w2404_37)] → W p l e room_1 s m #[Value.ref b] below meth c H locs cells slots Q (F0 m 2404 ls []) := by
                        intro w2404_37 hG ls hl
                        unfold fS2170_B2404 at hG
                        refine lv_aload hx hb dL_law_2404 (lv_at hl 9 rfl) ?_
                        refine lv_iconst (v := (nI 3)) hx hb dL_law_2406 (by decide) ?_
                        refine lv_iload hx hb dL_law_2407 (lv_at hl 23 rfl) ?_
                        refine lv_imul hx hb dL_law_2409 ?_
                        refine xtop (y := .int (nI (3 * k2323))) (congrArg Value.int (pk_mul _ _)) ?_
                        refine lv_iload hx hb dL_law_2410 (lv_at hl 19 rfl) ?_
                        refine lv_iadd hx hb dL_law_2412 ?_
                        refine xtop (y := .int (nI (3 * k2323 + w26))) (congrArg Value.int (nI_add _ _)) ?_
                        refine lv_lload hx hb dL_law_2413 (lv_at hl 24 rfl) ?_
                        refine xlS (x := w2404_37) (i := (3 * k2323 + w26)) (n := 9) 8 hx hb I hS hL hR (by decide) (by omega) (by decide) dL_law_2415 (fun H locs hw I hL hR hS => ?_)
                        have hW : LW (lSL σ2323 8 (3 * k2323 + w26) w2404_37) := hW.sL 8 (3 * k2323 + w26) w2404_37
                        refine lv_aload hx hb dL_law_2416 (lv_at hl 10 rfl) ?_
                        refine lv_iconst (v := (nI 3)) hx hb dL_law_2418 (by decide) ?_
                        refine lv_iload hx hb dL_law_2419 (lv_at hl 23 rfl) ?_
                        refine lv_imul hx hb dL_law_2421 ?_
                        refine xtop (y := .int (nI (3 * k2323))) (congrArg Value.int (pk_mul _ _)) ?_
                        refine lv_iload hx hb dL_law_2422 (lv_at hl 19 rfl) ?_
                        refine lv_iadd hx hb dL_law_2424 ?_
                        refine xtop (y := .int (nI (3 * k2323 + w26))) (congrArg Value.int (nI_add _ _)) ?_
                        refine lv_iconst (v := (nI 2)) hx hb dL_law_2425 (by decide) ?_
                        refine xiS (x := (nI 2)) (i := (3 * k2323 + w26)) (n := 16) 7 hx hb I hS hL hR (by decide) (by omega) (by decide) dL_law_2426 (fun H locs hw I hL hR hS => ?_)
                        have hW : LW (lSI (lSL σ2323 8 (3 * k2323 + w26) w2404_37) 7 (3 * k2323 + w26) (nI 2)) := hW.sI 7 (3 * k2323 + w26) (nI 2) (by omega)
                        refine lv_lload hx hb dL_law_2427 (lv_at hl 22 rfl) ?_
                        refine lv_lload hx hb dL_law_2429 (lv_at hl 24 rfl) ?_
                        refine lv_lsub hx hb dL_law_2431 ?_
                        refine lv_lstore (lv' := [(32, .long (a2323_32 - w2404_37)), (0, .ref b), (1, .ref (ad 0 0)), (2, .ref (ar 0)), (3, .ref (ar 1)), (4, .ref (ar 2)), (5, .ref (ar 3)), (6, .ref (ar 4)), (7, .ref (ar 5)), (8, .ref (ar 6)), (9, .ref (ar 8)), (10, .ref (ar 7)), (11, .ref (ar 9)), (12, .long w2316_12), (14, .int (nI n14)), (15, .int (nI n15)), (16, .int (nI n16)), (17, .int (nI n17)), (18, .int (nI n18)), (19, .int (nI n19)), (26, .int (nI w26)), (28, .long a2240_28), (30, .long a2240_30), (34, .int (nI k2323)), (37, .long w2404_37)]) hx hb dL_law_2432 hl (by decide) rfl (fun ls hl => ?_)
                        refine lv_iinc (v := (nI (k2323 + 1))) (lv' := [(34, .int (nI (k2323 + 1))), (32, .long (a2323_32 - w2404_37)), (0, .ref b), (1, .ref (ad 0 0)), (2, .ref (ar 0)), (3, .ref (ar 1)), (4, .ref (ar 2)), (5, .ref (ar 3)), (6, .ref (ar 4)), (7, .ref (ar 5)), (8, .ref (ar 6)), (9, .ref (ar 8)), (10, .ref (ar 7)), (11, .ref (ar 9)), (12, .long w2316_12), (14, .int (nI n14)), (15, .int (nI n15)), (16, .int (nI n16)), (17, .int (nI n17)), (18, .int (nI n18)), (19, .int (nI n19)), (26, .int (nI w26)), (28, .long a2240_28), (30, .long a2240_30), (37, .long w2404_37)]) hx hb dL_law_2434 hl (k := 23) rfl (nI_succ k2323).symm (by decide) rfl (fun ls hl => ?_)
                        refine lv_goto (tgt := 2323) hx hb dL_law_2437 (by decide) ?_
                        exact ih2323 (k2323 + 1) (a2323_32 - w2404_37) (lSI (lSL σ2323 8 (3 * k2323 + w26) w2404_37) 7 (3 * k2323 + w26) (nI 2)) (by first | omega | (simp only [lSI_K]; omega)) ad fa H locs hw cells slots I hL hR hS hW (by omega) (by omega) hG ls (lv_sub hl [2, 3, 4, 5, 6, 7, 8, 9, 10, 11, 12, 13, 14, 15, 16, 17, 18, 19, 20, 21, 22, 23, 1, 0] rfl)
                      refine xl_ge (tgt := 2404) hx hb dL_law_2394 dL_law_2395 (by decide) (fun c_2394 => ?_) (fun c_2394 => ?_)
                      · skip
                        rw [if_pos c_2394] at hG
                        exact B2404 ((a2240_28 * (fL_weight σ2323 n14 k2323 w26)) / a2240_30) hG ls (lv_sub hl [2, 3, 4, 5, 6, 7, 8, 9, 10, 11, 12, 13, 14, 15, 16, 17, 18, 19, 20, 21, 22, 23, 24, 25, 0] rfl)
                      · skip
                        rw [if_neg c_2394] at hG
                        refine lv_lload hx hb dL_law_2398 (lv_at hl 0 rfl) ?_
                        refine lv_lconst (v := (1 : Int64)) hx hb dL_law_2400 rfl ?_
                        refine lv_lsub hx hb dL_law_2401 ?_
                        refine lv_lstore (lv' := [(37, .long (((a2240_28 * (fL_weight σ2323 n14 k2323 w26)) / a2240_30) - (1 : Int64))), (35, .long (fL_weight σ2323 n14 k2323 w26)), (0, .ref b), (1, .ref (ad 0 0)), (2, .ref (ar 0)), (3, .ref (ar 1)), (4, .ref (ar 2)), (5, .ref (ar 3)), (6, .ref (ar 4)), (7, .ref (ar 5)), (8, .ref (ar 6)), (9, .ref (ar 8)), (10, .ref (ar 7)), (11, .ref (ar 9)), (12, .long w2316_12), (14, .int (nI n14)), (15, .int (nI n15)), (16, .int (nI n16)), (17, .int (nI n17)), (18, .int (nI n18)), (19, .int (nI n19)), (26, .int (nI w26)), (28, .long a2240_28), (30, .long a2240_30), (32, .long a2323_32), (34, .int (nI k2323))]) hx hb dL_law_2402 hl (by decide) rfl (fun ls hl => ?_)
                        exact B2404 (((a2240_28 * (fL_weight σ2323 n14 k2323 w26)) / a2240_30) - (1 : Int64)) hG ls (lv_sub hl [2, 3, 4, 5, 6, 7, 8, 9, 10, 11, 12, 13, 14, 15, 16, 17, 18, 19, 20, 21, 22, 23, 24, 25, 0] rfl)
                    · skip
                      rw [if_pos c_2368] at hG
                      refine lv_goto (tgt := 2434) hx hb dL_law_2372 (by decide) ?_
                      refine lv_iinc (v := (nI (k2323 + 1))) (lv' := [(34, .int (nI (k2323 + 1))), (35, .long (fL_weight σ2323 n14 k2323 w26)), (0, .ref b), (1, .ref (ad 0 0)), (2, .ref (ar 0)), (3, .ref (ar 1)), (4, .ref (ar 2)), (5, .ref (ar 3)), (6, .ref (ar 4)), (7, .ref (ar 5)), (8, .ref (ar 6)), (9, .ref (ar 8)), (10, .ref (ar 7)), (11, .ref (ar 9)), (12, .long w2316_12), (14, .int (nI n14)), (15, .int (nI n15)), (16, .int (nI n16)), (17, .int (nI n17)), (18, .int (nI n18)), (19, .int (nI n19)), (26, .int (nI w26)), (28, .long a2240_28), (30, .long a2240_30), (32, .long a2323_32)]) hx hb dL_law_2434 hl (k := 24) rfl (nI_succ k2323).symm (by decide) rfl (fun ls hl => ?_)
                      refine lv_goto (tgt := 2323) hx hb dL_law_2437 (by decide) ?_
                      exact ih2323 (k2323 + 1) a2323_32 σ2323 (by first | omega | (simp only [lSI_K]; omega)) ad fa H locs hw cells slots I hL hR hS hW (by omega) (by omega) hG ls (lv_sub hl [2, 3, 4, 5, 6, 7, 8, 9, 10, 11, 12, 13, 14, 15, 16, 17, 18, 19, 20, 21, 22, 23, 24, 0] rfl)
            exact L2323 3 0 a2240_28 σ2173 (by omega) ad fa H locs hw cells slots I hL hR hS hW (by omega) (by omega) hG ls (lv_sub hl [2, 3, 4, 5, 6, 7, 8, 9, 10, 11, 12, 13, 14, 15, 16, 17, 18, 19, 20, 21, 22, 23, 1, 0] rfl)
          refine xl_ne (tgt := 2316) hx hb dL_law_2305 dL_law_2306 (by decide) (fun c_2305 => ?_) (fun c_2305 => ?_)
          · skip
            rw [if_neg c_2305] at hG
            exact B2316 q12 hG ls (lv_sub hl [0, 1, 2, 3, 4, 5, 6, 7, 8, 9, 10, 11, 12, 13, 14, 15, 16, 17, 18, 19, 20, 21] rfl)
          · skip
            rw [if_pos c_2305] at hG
            refine lv_lload hx hb dL_law_2309 (lv_at hl 12 rfl) ?_
            refine lv_lload hx hb dL_law_2311 (lv_at hl 20 rfl) ?_
            refine lv_lsub hx hb dL_law_2313 ?_
            refine lv_lstore (lv' := [(12, .long (q12 - a2240_28)), (0, .ref b), (1, .ref (ad 0 0)), (2, .ref (ar 0)), (3, .ref (ar 1)), (4, .ref (ar 2)), (5, .ref (ar 3)), (6, .ref (ar 4)), (7, .ref (ar 5)), (8, .ref (ar 6)), (9, .ref (ar 8)), (10, .ref (ar 7)), (11, .ref (ar 9)), (14, .int (nI n14)), (15, .int (nI n15)), (16, .int (nI n16)), (17, .int (nI n17)), (18, .int (nI n18)), (19, .int (nI n19)), (26, .int (nI w26)), (28, .long a2240_28), (30, .long a2240_30), (32, .int (nI k2240))]) hx hb dL_law_2314 hl (by decide) rfl (fun ls hl => ?_)
            exact B2316 (q12 - a2240_28) hG ls (lv_sub hl [1, 2, 3, 4, 5, 6, 7, 8, 9, 10, 11, 12, 0, 13, 14, 15, 16, 17, 18, 19, 20, 21] rfl)
        | succ n2240 ih2240 =>
          intro k2240 a2240_28 a2240_30 hkn hG ls hl
          have hk : k2240 < 3 := by omega
          have hG : lseq (((if (lI σ2173 7 (3 * k2240 + w26)) = (nI 1) then (a2240_28 - (lL σ2173 8 (3 * k2240 + w26))) else a2240_28), (if (lI σ2173 7 (3 * k2240 + w26)) = (nI 1) then a2240_30 else (a2240_30 + (fL_weight σ2173 n14 k2240 w26))))) (fun q => fS2170_L2240 σ τ q12 n14 n15 n16 n17 w26 w28 σ2173 n2240 (k2240 + 1) q.1 q.2) = some st := hG
          refine lv_iload hx hb dL_law_2240 (lv_at hl 22 rfl) ?_
          refine lv_iconst (v := (nI 3)) hx hb dL_law_2242 (by decide) ?_
          refine lv_icmp_ge (tgt := 2302) hx hb dL_law_2243 (by decide) (fun q => absurd q (nI_ge hk (by omega))) (fun _ => ?_)
          refine lv_aload hx hb dL_law_2246 (lv_at hl 10 rfl) ?_
          refine lv_iconst (v := (nI 3)) hx hb dL_law_2248 (by decide) ?_
          refine lv_iload hx hb dL_law_2249 (lv_at hl 22 rfl) ?_
          refine lv_imul hx hb dL_law_2251 ?_
          refine xtop (y := .int (nI (3 * k2240))) (congrArg Value.int (pk_mul _ _)) ?_
          refine lv_iload hx hb dL_law_2252 (lv_at hl 19 rfl) ?_
          refine lv_iadd hx hb dL_law_2254 ?_
          refine xtop (y := .int (nI (3 * k2240 + w26))) (congrArg Value.int (nI_add _ _)) ?_
          refine xiald (i := (3 * k2240 + w26)) (n := 16) hx hb I (hL.2.1 7 16 (by decide)) (by omega) (by decide) dL_law_2255 ?_
          refine lv_iconst (v := (nI 1)) hx hb dL_law_2256 (by decide) ?_
          refine lv_icmp_ne (tgt := 2278) hx hb dL_law_2257 (by decide) (fun c_2257 => ?_) (fun c_2257 => ?_)
          · skip
            rw [if_neg c_2257] at hG; rw [if_neg c_2257] at hG
            refine lv_lload hx hb dL_law_2278 (lv_at hl 21 rfl) ?_
            refine lv_aload_n hx hb dL_law_2280 rfl (lv_at hl 2 rfl) ?_
            refine lv_iload hx hb dL_law_2281 (lv_at hl 13 rfl) ?_
            refine lv_aload_n hx hb dL_law_2283 rfl (lv_at hl 3 rfl) ?_
            refine lv_aload hx hb dL_law_2284 (lv_at hl 4 rfl) ?_
            refine lv_iload hx hb dL_law_2286 (lv_at hl 22 rfl) ?_
            refine lv_iload hx hb dL_law_2288 (lv_at hl 19 rfl) ?_
            refine xcsR (As := [.ref (ar 0), .int (nI n14), .ref (ar 1), .ref (ar 2), .int (nI k2240), .int (nI w26)]) (rest := [.long a2240_30]) (v := some (.long (fL_weight σ2173 n14 k2240 w26))) ⟨hx, hb, hml, hown, hts⟩ (mL_weight l s.heap.size D E hw σ2173 ar hL hW n14 k2240 w26 (by first | assumption | omega) (by first | assumption | omega) (by first | assumption | omega)) (va_cwS 6 hts gL_law_L_weight rfl rfl rfl (by decide +kernel) ⟨Nat.le_of_ble_eq_true rfl, Nat.le_of_ble_eq_true rfl⟩) I rfl hl.1 rfl (Nat.le_of_ble_eq_true rfl) dL_law_2290 ⟨show cells + 0 ≤ 600086 by omega, show slots + 0 ≤ 7301442 by omega⟩ ?_
            refine W.eq (g2 := F0 m 2293 ls [.long (fL_weight σ2173 n14 k2240 w26), .long a2240_30]) rfl ?_
            refine lv_ladd hx hb dL_law_2293 ?_
            refine lv_lstore (lv' := [(30, .long (a2240_30 + (fL_weight σ2173 n14 k2240 w26))), (0, .ref b), (1, .ref (ad 0 0)), (2, .ref (ar 0)), (3, .ref (ar 1)), (4, .ref (ar 2)), (5, .ref (ar 3)), (6, .ref (ar 4)), (7, .ref (ar 5)), (8, .ref (ar 6)), (9, .ref (ar 8)), (10, .ref (ar 7)), (11, .ref (ar 9)), (12, .long q12), (14, .int (nI n14)), (15, .int (nI n15)), (16, .int (nI n16)), (17, .int (nI n17)), (18, .int (nI n18)), (19, .int (nI n19)), (26, .int (nI w26)), (28, .long a2240_28), (32, .int (nI k2240))]) hx hb dL_law_2294 hl (by decide) rfl (fun ls hl => ?_)
            refine lv_iinc (v := (nI (k2240 + 1))) (lv' := [(32, .int (nI (k2240 + 1))), (30, .long (a2240_30 + (fL_weight σ2173 n14 k2240 w26))), (0, .ref b), (1, .ref (ad 0 0)), (2, .ref (ar 0)), (3, .ref (ar 1)), (4, .ref (ar 2)), (5, .ref (ar 3)), (6, .ref (ar 4)), (7, .ref (ar 5)), (8, .ref (ar 6)), (9, .ref (ar 8)), (10, .ref (ar 7)), (11, .ref (ar 9)), (12, .long q12), (14, .int (nI n14)), (15, .int (nI n15)), (16, .int (nI n16)), (17, .int (nI n17)), (18, .int (nI n18)), (19, .int (nI n19)), (26, .int (nI w26)), (28, .long a2240_28)]) hx hb dL_law_2296 hl (k := 22) rfl (nI_succ k2240).symm (by decide) rfl (fun ls hl => ?_)
            refine lv_goto (tgt := 2240) hx hb dL_law_2299 (by decide) ?_
            exact ih2240 (k2240 + 1) a2240_28 (a2240_30 + (fL_weight σ2173 n14 k2240 w26)) (by first | omega | (simp only [lSI_K]; omega)) hG ls (lv_sub hl [2, 3, 4, 5, 6, 7, 8, 9, 10, 11, 12, 13, 14, 15, 16, 17, 18, 19, 20, 21, 22, 1, 0] rfl)
          · skip
            rw [if_pos c_2257] at hG; rw [if_pos c_2257] at hG
            refine lv_lload hx hb dL_law_2260 (lv_at hl 20 rfl) ?_
            refine lv_aload hx hb dL_law_2262 (lv_at hl 9 rfl) ?_
            refine lv_iconst (v := (nI 3)) hx hb dL_law_2264 (by decide) ?_
            refine lv_iload hx hb dL_law_2265 (lv_at hl 22 rfl) ?_
            refine lv_imul hx hb dL_law_2267 ?_
            refine xtop (y := .int (nI (3 * k2240))) (congrArg Value.int (pk_mul _ _)) ?_
            refine lv_iload hx hb dL_law_2268 (lv_at hl 19 rfl) ?_
            refine lv_iadd hx hb dL_law_2270 ?_
            refine xtop (y := .int (nI (3 * k2240 + w26))) (congrArg Value.int (nI_add _ _)) ?_
            refine xlald (i := (3 * k2240 + w26)) (n := 9) hx hb I (hL.2.2.1 8 9 (by decide)) (by omega) (by decide) dL_law_2271 ?_
            refine lv_lsub hx hb dL_law_2272 ?_
            refine lv_lstore (lv' := [(28, .long (a2240_28 - (lL σ2173 8 (3 * k2240 + w26)))), (0, .ref b), (1, .ref (ad 0 0)), (2, .ref (ar 0)), (3, .ref (ar 1)), (4, .ref (ar 2)), (5, .ref (ar 3)), (6, .ref (ar 4)), (7, .ref (ar 5)), (8, .ref (ar 6)), (9, .ref (ar 8)), (10, .ref (ar 7)), (11, .ref (ar 9)), (12, .long q12), (14, .int (nI n14)), (15, .int (nI n15)), (16, .int (nI n16)), (17, .int (nI n17)), (18, .int (nI n18)), (19, .int (nI n19)), (26, .int (nI w26)), (30, .long a2240_30), (32, .int (nI k2240))]) hx hb dL_law_2273 hl (by decide) rfl (fun ls hl => ?_)
            refine lv_goto (tgt := 2296) hx hb dL_law_2275 (by decide) ?_
            refine lv_iinc (v := (nI (k2240 + 1))) (lv' := [(32, .int (nI (k2240 + 1))), (28, .long (a2240_28 - (lL σ2173 8 (3 * k2240 + w26)))), (0, .ref b), (1, .ref (ad 0 0)), (2, .ref (ar 0)), (3, .ref (ar 1)), (4, .ref (ar 2)), (5, .ref (ar 3)), (6, .ref (ar 4)), (7, .ref (ar 5)), (8, .ref (ar 6)), (9, .ref (ar 8)), (10, .ref (ar 7)), (11, .ref (ar 9)), (12, .long q12), (14, .int (nI n14)), (15, .int (nI n15)), (16, .int (nI n16)), (17, .int (nI n17)), (18, .int (nI n18)), (19, .int (nI n19)), (26, .int (nI w26)), (30, .long a2240_30)]) hx hb dL_law_2296 hl (k := 22) rfl (nI_succ k2240).symm (by decide) rfl (fun ls hl => ?_)
            refine lv_goto (tgt := 2240) hx hb dL_law_2299 (by decide) ?_
            exact ih2240 (k2240 + 1) (a2240_28 - (lL σ2173 8 (3 * k2240 + w26))) a2240_30 (by first | omega | (simp only [lSI_K]; omega)) hG ls (lv_sub hl [2, 3, 4, 5, 6, 7, 8, 9, 10, 11, 12, 13, 14, 15, 16, 17, 18, 19, 20, 21, 1, 22, 0] rfl)
      exact L2240 3 0 w28 (0 : Int64) (by omega) hG ls (lv_sub hl [2, 3, 4, 5, 6, 7, 8, 9, 10, 11, 12, 13, 14, 15, 16, 17, 18, 19, 20, 21, 22, 1, 0] rfl)
    | succ n2173 ih2173 =>
      intro k2173 σ2173 hkn ad fa H locs hw cells slots I hL hR hS hW hc1 hc2 hG ls hl
      have hk : k2173 < n15 := by omega
      have hG : lseq ((if (lK σ2173 3 (6 * k2173 + 2)) / 100 = w26 then (if (fL_covered σ2173 n14 k2173) = 0 then σ2173 else (lSK σ2173 3 (6 * k2173 + 5) ((lK σ2173 3 (6 * k2173 + 5)) ||| 4))) else σ2173)) (fun q => fS2170_L2173 σ τ q12 n14 n15 n16 n17 w26 w28 n2173 (k2173 + 1) q) = some st := hG
      refine lv_iload hx hb dL_law_2173 (lv_at hl 21 rfl) ?_
      refine lv_iload hx hb dL_law_2175 (lv_at hl 14 rfl) ?_
      refine lv_icmp_ge (tgt := 2234) hx hb dL_law_2177 (by decide) (fun q => absurd q (nI_ge hk (by omega))) (fun _ => ?_)
      refine lv_aload hx hb dL_law_2180 (lv_at hl 5 rfl) ?_
      refine lv_bipush (v := (nI 6)) hx hb dL_law_2182 (by decide) ?_
      refine lv_iload hx hb dL_law_2184 (lv_at hl 21 rfl) ?_
      refine lv_imul hx hb dL_law_2186 ?_
      refine xtop (y := .int (nI (6 * k2173))) (congrArg Value.int (pk_mul _ _)) ?_
      refine lv_iconst (v := (nI 2)) hx hb dL_law_2187 (by decide) ?_
      refine lv_iadd hx hb dL_law_2188 ?_
      refine xtop (y := .int (nI (6 * k2173 + 2))) (congrArg Value.int (nI_add _ _)) ?_
      refine xiald (i := (6 * k2173 + 2)) (n := 64) hx hb I (hL.1 3 64 (by decide)) (by omega) (by decide) dL_law_2189 ?_
      have g2189 : lK σ2173 3 (6 * k2173 + 2) < 1073741824 := hW.2.2.2.2.2.1 3 (6 * k2173 + 2)
      have b2189 : lK σ2173 3 (6 * k2173 + 2) < 300 := hW.2.2.2.1 k2173
      refine lv_bipush (v := (nI 100)) hx hb dL_law_2190 (by decide) ?_
      refine lv_idiv hx hb dL_law_2192 (by decide) ?_
      refine xtop (y := .int (nI ((lK σ2173 3 (6 * k2173 + 2)) / 100))) (congrArg Value.int (pk_div (by omega) (by decide) (by decide))) ?_
      refine lv_iload hx hb dL_law_2193 (lv_at hl 19 rfl) ?_
      refine lv_icmp_ne (tgt := 2228) hx hb dL_law_2195 (by decide) (fun c_2195 => ?_) (fun c_2195 => ?_)
      · skip
        have c_2195 : ¬ (lK σ2173 3 (6 * k2173 + 2)) / 100 = w26 := fun q => c_2195 ((nI_eq (a := ((lK σ2173 3 (6 * k2173 + 2)) / 100)) (b := w26) (by omega) (by omega)).mpr q)
        rw [if_neg c_2195] at hG
        refine lv_iinc (v := (nI (k2173 + 1))) (lv' := [(30, .int (nI (k2173 + 1))), (0, .ref b), (1, .ref (ad 0 0)), (2, .ref (ar 0)), (3, .ref (ar 1)), (4, .ref (ar 2)), (5, .ref (ar 3)), (6, .ref (ar 4)), (7, .ref (ar 5)), (8, .ref (ar 6)), (9, .ref (ar 8)), (10, .ref (ar 7)), (11, .ref (ar 9)), (12, .long q12), (14, .int (nI n14)), (15, .int (nI n15)), (16, .int (nI n16)), (17, .int (nI n17)), (18, .int (nI n18)), (19, .int (nI n19)), (26, .int (nI w26)), (28, .long w28)]) hx hb dL_law_2228 hl (k := 21) rfl (nI_succ k2173).symm (by decide) rfl (fun ls hl => ?_)
        refine lv_goto (tgt := 2173) hx hb dL_law_2231 (by decide) ?_
        exact ih2173 (k2173 + 1) σ2173 (by first | omega | (simp only [lSI_K]; omega)) ad fa H locs hw cells slots I hL hR hS hW (by omega) (by omega) hG ls (lv_sub hl [1, 2, 3, 4, 5, 6, 7, 8, 9, 10, 11, 12, 13, 14, 15, 16, 17, 18, 19, 20, 21, 0] rfl)
      · skip
        have c_2195 : (lK σ2173 3 (6 * k2173 + 2)) / 100 = w26 := (nI_eq (a := ((lK σ2173 3 (6 * k2173 + 2)) / 100)) (b := w26) (by omega) (by omega)).mp c_2195
        rw [if_pos c_2195] at hG
        refine lv_aload_n hx hb dL_law_2198 rfl (lv_at hl 2 rfl) ?_
        refine lv_iload hx hb dL_law_2199 (lv_at hl 13 rfl) ?_
        refine lv_aload_n hx hb dL_law_2201 rfl (lv_at hl 3 rfl) ?_
        refine lv_aload hx hb dL_law_2202 (lv_at hl 5 rfl) ?_
        refine lv_aload hx hb dL_law_2204 (lv_at hl 10 rfl) ?_
        refine lv_iload hx hb dL_law_2206 (lv_at hl 21 rfl) ?_
        refine xcsR (As := [.ref (ar 0), .int (nI n14), .ref (ar 1), .ref (ar 3), .ref (ar 7), .int (nI k2173)]) (rest := []) (v := some (.int (fL_covered σ2173 n14 k2173))) ⟨hx, hb, hml, hown, hts⟩ (mL_covered l s.heap.size D E hw σ2173 ar hL hW n14 k2173 (by first | assumption | omega) (by first | assumption | omega)) (va_cwS 6 hts gL_law_L_covered rfl rfl rfl (by decide +kernel) ⟨Nat.le_of_ble_eq_true rfl, Nat.le_of_ble_eq_true rfl⟩) I rfl hl.1 rfl (Nat.le_of_ble_eq_true rfl) dL_law_2208 ⟨show cells + 0 ≤ 600086 by omega, show slots + 0 ≤ 7301442 by omega⟩ ?_
        refine W.eq (g2 := F0 m 2211 ls [.int (fL_covered σ2173 n14 k2173)]) rfl ?_
        refine lv_if_eq (tgt := 2228) hx hb dL_law_2211 (by decide) (fun c_2211 => ?_) (fun c_2211 => ?_)
        · skip
          rw [if_pos c_2211] at hG
          refine lv_iinc (v := (nI (k2173 + 1))) (lv' := [(30, .int (nI (k2173 + 1))), (0, .ref b), (1, .ref (ad 0 0)), (2, .ref (ar 0)), (3, .ref (ar 1)), (4, .ref (ar 2)), (5, .ref (ar 3)), (6, .ref (ar 4)), (7, .ref (ar 5)), (8, .ref (ar 6)), (9, .ref (ar 8)), (10, .ref (ar 7)), (11, .ref (ar 9)), (12, .long q12), (14, .int (nI n14)), (15, .int (nI n15)), (16, .int (nI n16)), (17, .int (nI n17)), (18, .int (nI n18)), (19, .int (nI n19)), (26, .int (nI w26)), (28, .long w28)]) hx hb dL_law_2228 hl (k := 21) rfl (nI_succ k2173).symm (by decide) rfl (fun ls hl => ?_)
          refine lv_goto (tgt := 2173) hx hb dL_law_2231 (by decide) ?_
          exact ih2173 (k2173 + 1) σ2173 (by first | omega | (simp only [lSI_K]; omega)) ad fa H locs hw cells slots I hL hR hS hW (by omega) (by omega) hG ls (lv_sub hl [1, 2, 3, 4, 5, 6, 7, 8, 9, 10, 11, 12, 13, 14, 15, 16, 17, 18, 19, 20, 21, 0] rfl)
        · skip
          rw [if_neg c_2211] at hG
          refine lv_aload hx hb dL_law_2214 (lv_at hl 5 rfl) ?_
          refine lv_bipush (v := (nI 6)) hx hb dL_law_2216 (by decide) ?_
          refine lv_iload hx hb dL_law_2218 (lv_at hl 21 rfl) ?_
          refine lv_imul hx hb dL_law_2220 ?_
          refine xtop (y := .int (nI (6 * k2173))) (congrArg Value.int (pk_mul _ _)) ?_
          refine lv_iconst (v := (nI 5)) hx hb dL_law_2221 (by decide) ?_
          refine lv_iadd hx hb dL_law_2222 ?_
          refine xtop (y := .int (nI (6 * k2173 + 5))) (congrArg Value.int (nI_add _ _)) ?_
          refine lv_dup2_11 hx hb dL_law_2223 rfl rfl ?_
          refine xiald (i := (6 * k2173 + 5)) (n := 64) hx hb I (hL.1 3 64 (by decide)) (by omega) (by decide) dL_law_2224 ?_
          have g2224 : lK σ2173 3 (6 * k2173 + 5) < 1073741824 := hW.2.2.2.2.2.1 3 (6 * k2173 + 5)
          refine lv_iconst (v := (nI 4)) hx hb dL_law_2225 (by decide) ?_
          refine lv_ior hx hb dL_law_2226 ?_
          refine xtop (y := .int (nI ((lK σ2173 3 (6 * k2173 + 5)) ||| 4))) (congrArg Value.int nI_or) ?_
          have o2226 : (lK σ2173 3 (6 * k2173 + 5)) ||| 4 < 2 ^ 30 := Nat.or_lt_two_pow (by omega) (by decide)
          refine xkS (x := ((lK σ2173 3 (6 * k2173 + 5)) ||| 4)) (i := (6 * k2173 + 5)) (n := 64) 3 hx hb I hS hL hR (by decide) (by omega) (by decide) dL_law_2227 (fun H locs hw I hL hR hS => ?_)
          have hW : LW (lSK σ2173 3 (6 * k2173 + 5) ((lK σ2173 3 (6 * k2173 + 5)) ||| 4)) := hW.sK 3 (6 * k2173 + 5) ((lK σ2173 3 (6 * k2173 + 5)) ||| 4) (by omega) (by intro z q; first | exact absurd z (by decide) | omega | (obtain ⟨i, hi⟩ := q; omega)) (by intro z q; first | exact absurd z (by decide) | omega | (obtain ⟨i, hi⟩ := q; omega)) (by intro z q; first | exact absurd z (by decide) | omega | (obtain ⟨i, hi⟩ := q; omega)) (by intro z q; first | exact absurd z (by decide) | omega | (obtain ⟨i, hi⟩ := q; omega)) (by intro z q; first | exact absurd z (by decide) | omega | (obtain ⟨i, hi⟩ := q; omega))
          refine lv_iinc (v := (nI (k2173 + 1))) (lv' := [(30, .int (nI (k2173 + 1))), (0, .ref b), (1, .ref (ad 0 0)), (2, .ref (ar 0)), (3, .ref (ar 1)), (4, .ref (ar 2)), (5, .ref (ar 3)), (6, .ref (ar 4)), (7, .ref (ar 5)), (8, .ref (ar 6)), (9, .ref (ar 8)), (10, .ref (ar 7)), (11, .ref (ar 9)), (12, .long q12), (14, .int (nI n14)), (15, .int (nI n15)), (16, .int (nI n16)), (17, .int (nI n17)), (18, .int (nI n18)), (19, .int (nI n19)), (26, .int (nI w26)), (28, .long w28)]) hx hb dL_law_2228 hl (k := 21) rfl (nI_succ k2173).symm (by decide) rfl (fun ls hl => ?_)
          refine lv_goto (tgt := 2173) hx hb dL_law_2231 (by decide) ?_
          exact ih2173 (k2173 + 1) (lSK σ2173 3 (6 * k2173 + 5) ((lK σ2173 3 (6 * k2173 + 5)) ||| 4)) (by first | omega | (simp only [lSI_K]; omega)) ad fa H locs hw cells slots I hL hR hS hW (by omega) (by omega) hG ls (lv_sub hl [1, 2, 3, 4, 5, 6, 7, 8, 9, 10, 11, 12, 13, 14, 15, 16, 17, 18, 19, 20, 21, 0] rfl)
  exact L2173 n15 0 σ (by omega) ad fa H locs h cells slots I hL hR hS hW (by omega) (by omega) hG ls (lv_sub hl [1, 2, 3, 4, 5, 6, 7, 8, 9, 10, 11, 12, 13, 14, 15, 16, 17, 18, 19, 20, 21, 0] rfl)

def fS2026_B2159 (σ : LT) (τ : CT) (q12 : Int64) (n14 : Nat) (n15 : Nat) (n16 : Nat) (n17 : Nat) (a2062_27 : Int32) (x2143 : (Int64 × CT)) (v2159_0 : Int64) : Option ST := (if x2143.1 = v2159_0 then (if a2062_27 = 0 then (some (σ, x2143.2, q12, n14, n15, n16, n17)) else (fS2170 σ x2143.2 q12 n14 n15 n16 n17 (lF σ) (fL_cost σ n14 n15 n16 (lF σ)))) else none)
def fS2026_S2062 (σ : LT) (τ : CT) (q12 : Int64) (n14 : Nat) (n15 : Nat) (n16 : Nat) (n17 : Nat) (k2062 : Nat) (a2062_27 : Int32) : (Int32) := (if (lK σ 3 (6 * k2062 + 2)) / 100 = lF σ then (if (lK σ 3 (6 * k2062 + 5)) &&& 1 = 0 then (nI 0) else a2062_27) else a2062_27)
def fS2026_L2062 (σ : LT) (τ : CT) (q12 : Int64) (n14 : Nat) (n15 : Nat) (n16 : Nat) (n17 : Nat) : Nat → Nat → Int32 → Option ST
  | 0, k2062, a2062_27 => (if 3 ≤ lF σ then (some (σ, τ, q12, n14, n15, n16, n17)) else (lcall none (fL_closed τ (nI (lF σ))) (fun x2143 => (fS2026_B2159 σ τ q12 n14 n15 n16 n17 a2062_27 x2143 (if a2062_27 = 0 then (-1 : Int64) else (fL_cost σ n14 n15 n16 (lF σ)))))))
  | n2062 + 1, k2062, a2062_27 => lseq (fS2026_S2062 σ τ q12 n14 n15 n16 n17 k2062 a2062_27) (fun q => fS2026_L2062 σ τ q12 n14 n15 n16 n17 n2062 (k2062 + 1) q)
def fS2026_B2057 (σ : LT) (τ : CT) (q12 : Int64) (n14 : Nat) (n15 : Nat) (n16 : Nat) (n17 : Nat) (v2057_0 : Int32) : Option ST := (fS2026_L2062 σ τ q12 n14 n15 n16 n17 n15 0 v2057_0)
def fS2026 (σ : LT) (τ : CT) (q12 : Int64) (n14 : Nat) (n15 : Nat) (n16 : Nat) (n17 : Nat) : Option ST := (fS2026_B2057 σ τ q12 n14 n15 n16 n17 (if 3 ≤ lF σ then (nI 0) else (if n17 < 100 * (lF σ) + 100 then (nI 0) else (nI 1))))
set_option maxHeartbeats 4000000 in
set_option maxRecDepth 100000 in
theorem sS2026 {p : Program} {l : Launch} {e : Env} {s : State} {m : MethodId} {below : List Frame} {meth : Method} {c : Code} {b L : Nat} {xs : Nat → Int32} {Q : State → Prop} {D : va_G} {E : Nat → ClassId} {σ : LT} {τ : CT} {ad : Nat → Nat → Nat} {fa : Nat → Nat → Option Nat} {ar : Nat → Nat} {h : XW} {H : Heap} {locs : List Loc} {cells slots K Ks : Nat}  {q12 : Int64} {n14 n15 n16 n17 n18 n19 : Nat} {st : ST} {ls : Array Slot} (F : LF p l s m c b L xs) (I : XI s.heap.size D E h s H) (hL : RA E σ ar h) (hR : RC E (lPr ar) τ ad fa h) (hS : va_S (xA s.heap.size) s.heap H locs) (hW : LW σ) (hC : CW τ)  (h14 : n14 ≤ 12) (h15 : n15 ≤ 10) (h16 : n16 ≤ 10) (h17 : n17 < 300) (h18 : n18 < 1000) (h19 : n19 < 44) (hc1 : cells + 150 ≤ K) (hc2 : slots + 1500 ≤ Ks) (hK1 : K ≤ 600086) (hK2 : Ks ≤ 7301442) (hl : lv_has ls 39 [(0, .ref b), (1, .ref (ad 0 0)), (2, .ref (ar 0)), (3, .ref (ar 1)), (4, .ref (ar 2)), (5, .ref (ar 3)), (6, .ref (ar 4)), (7, .ref (ar 5)), (8, .ref (ar 6)), (9, .ref (ar 8)), (10, .ref (ar 7)), (11, .ref (ar 9)), (12, .long q12), (14, .int (nI n14)), (15, .int (nI n15)), (16, .int (nI n16)), (17, .int (nI n17)), (18, .int (nI n18)), (19, .int (nI n19))]) (kk : lKK p l e s m below meth c b D E ar Q K Ks n18 n19 2560 st) (hG : fS2026 σ τ q12 n14 n15 n16 n17 = some st) : W p l e room_1 s m #[Value.ref b] below meth c H locs cells slots Q (F0 m 2026 ls []) := by
  obtain ⟨hx, hb, hml, hown, hts, hX, hbl, hCa, hlst, hLL⟩ := id F
  have hbA : ¬ xA s.heap.size b := Nat.not_le.mpr hbl
  unfold fS2026 at hG
  refine lv_aload hx hb dL_law_2026 (lv_at hl 10 rfl) ?_
  refine lv_bipush (v := (nI 12)) hx hb dL_law_2028 (by decide) ?_
  refine xiald (i := 12) (n := 16) hx hb I (hL.2.1 7 16 (by decide)) (by omega) (by decide) dL_law_2030 ?_
  have f2030 : lI σ 7 12 = nI (lF σ) ∧ lF σ ≤ 3 := hW.2.2.2.2.1
  refine xtop (y := .int (nI (lF σ))) (congrArg Value.int f2030.1) ?_
  have b2030 := f2030.2
  refine lv_istore (lv' := [(26, .int (nI (lF σ))), (0, .ref b), (1, .ref (ad 0 0)), (2, .ref (ar 0)), (3, .ref (ar 1)), (4, .ref (ar 2)), (5, .ref (ar 3)), (6, .ref (ar 4)), (7, .ref (ar 5)), (8, .ref (ar 6)), (9, .ref (ar 8)), (10, .ref (ar 7)), (11, .ref (ar 9)), (12, .long q12), (14, .int (nI n14)), (15, .int (nI n15)), (16, .int (nI n16)), (17, .int (nI n17)), (18, .int (nI n18)), (19, .int (nI n19))]) hx hb dL_law_2031 hl (by decide) rfl (fun ls hl => ?_)
  refine lv_iload hx hb dL_law_2033 (lv_at hl 0 rfl) ?_
  refine lv_iconst (v := (nI 3)) hx hb dL_law_2035 (by decide) ?_
  have B2057 : ∀ (v2057_0 : Int32), (v2057_0 = 0 ∨ v2057_0 = 1) → fS2026_B2057 σ τ q12 n14 n15 n16 n17 v2057_0 = some st → ∀ ls : Array Slot, lv_has ls 39 [(0, .ref b), (1, .ref (ad 0 0)), (2, .ref (ar 0)), (3, .ref (ar 1)), (4, .ref (ar 2)), (5, .ref (ar 3)), (6, .ref (ar 4)), (7, .ref (ar 5)), (8, .ref (ar 6)), (9, .ref (ar 8)), (10, .ref (ar 7)), (11, .ref (ar 9)), (12, .long q12), (14, .int (nI n14)), (15, .int (nI n15)), (16, .int (nI n16)), (17, .int (nI n17)), (18, .int (nI n18)), (19, .int (nI n19)), (26, .int (nI (lF σ)))] → W p l e room_1 s m #[Value.ref b] below meth c H locs cells slots Q (F0 m 2057 ls [.int v2057_0]) := by
    intro v2057_0 zv2057_0 hG ls hl
    unfold fS2026_B2057 at hG
    refine lv_istore (lv' := [(27, .int v2057_0), (0, .ref b), (1, .ref (ad 0 0)), (2, .ref (ar 0)), (3, .ref (ar 1)), (4, .ref (ar 2)), (5, .ref (ar 3)), (6, .ref (ar 4)), (7, .ref (ar 5)), (8, .ref (ar 6)), (9, .ref (ar 8)), (10, .ref (ar 7)), (11, .ref (ar 9)), (12, .long q12), (14, .int (nI n14)), (15, .int (nI n15)), (16, .int (nI n16)), (17, .int (nI n17)), (18, .int (nI n18)), (19, .int (nI n19)), (26, .int (nI (lF σ)))]) hx hb dL_law_2057 hl (by decide) rfl (fun ls hl => ?_)
    refine lv_iconst (v := (nI 0)) hx hb dL_law_2059 (by decide) ?_
    refine lv_istore (lv' := [(28, .int (nI 0)), (27, .int v2057_0), (0, .ref b), (1, .ref (ad 0 0)), (2, .ref (ar 0)), (3, .ref (ar 1)), (4, .ref (ar 2)), (5, .ref (ar 3)), (6, .ref (ar 4)), (7, .ref (ar 5)), (8, .ref (ar 6)), (9, .ref (ar 8)), (10, .ref (ar 7)), (11, .ref (ar 9)), (12, .long q12), (14, .int (nI n14)), (15, .int (nI n15)), (16, .int (nI n16)), (17, .int (nI n17)), (18, .int (nI n18)), (19, .int (nI n19)), (26, .int (nI (lF σ)))]) hx hb dL_law_2060 hl (by decide) rfl (fun ls hl => ?_)
    have L2062 : ∀ (n2062 : Nat) (k2062 : Nat) (a2062_27 : Int32), k2062 + n2062 = n15 → (a2062_27 = 0 ∨ a2062_27 = 1) → fS2026_L2062 σ τ q12 n14 n15 n16 n17 n2062 k2062 a2062_27 = some st → ∀ ls : Array Slot, lv_has ls 39 [(0, .ref b), (1, .ref (ad 0 0)), (2, .ref (ar 0)), (3, .ref (ar 1)), (4, .ref (ar 2)), (5, .ref (ar 3)), (6, .ref (ar 4)), (7, .ref (ar 5)), (8, .ref (ar 6)), (9, .ref (ar 8)), (10, .ref (ar 7)), (11, .ref (ar 9)), (12, .long q12), (14, .int (nI n14)), (15, .int (nI n15)), (16, .int (nI n16)), (17, .int (nI n17)), (18, .int (nI n18)), (19, .int (nI n19)), (26, .int (nI (lF σ))), (27, .int a2062_27), (28, .int (nI k2062))] → W p l e room_1 s m #[Value.ref b] below meth c H locs cells slots Q (F0 m 2062 ls []) := by
      intro n2062
      induction n2062 with
      | zero =>
        intro k2062 a2062_27 hkn za2062_27 hG ls hl
        have hkN : k2062 = n15 := by omega
        have hG : (if 3 ≤ lF σ then (some (σ, τ, q12, n14, n15, n16, n17)) else (lcall none (fL_closed τ (nI (lF σ))) (fun x2143 => (fS2026_B2159 σ τ q12 n14 n15 n16 n17 a2062_27 x2143 (if a2062_27 = 0 then (-1 : Int64) else (fL_cost σ n14 n15 n16 (lF σ))))))) = some st := hG
        refine lv_iload hx hb dL_law_2062 (lv_at hl 21 rfl) ?_
        refine lv_iload hx hb dL_law_2064 (lv_at hl 14 rfl) ?_
        refine lv_icmp_ge (tgt := 2111) hx hb dL_law_2066 (by decide) (fun _ => ?_) (fun q => absurd (nI_le (Nat.le_of_eq hkN.symm) (by omega)) q)
        refine lv_iload hx hb dL_law_2111 (lv_at hl 19 rfl) ?_
        refine lv_iconst (v := (nI 3)) hx hb dL_law_2113 (by decide) ?_
        refine lv_icmp_ge (tgt := 2515) hx hb dL_law_2114 (by decide) (fun c_2114 => ?_) (fun c_2114 => ?_)
        · skip
          have c_2114 : 3 ≤ lF σ := (nI_leI (a := 3) (b := (lF σ)) (by omega) (by omega)).mp c_2114
          rw [if_pos c_2114] at hG
          refine lv_goto (tgt := 2560) hx hb dL_law_2515 (by decide) ?_
          have hst := Option.some.inj (show some (σ, τ, q12, n14, n15, n16, n17) = some st from hG)
          subst hst
          exact W.widen (by omega) (by omega) (kk _ _ _ _ _ _ I hL hR hS hW hC (lv_sub hl [0, 1, 2, 3, 4, 5, 6, 7, 8, 9, 10, 11, 12, 13, 14, 15, 16, 17, 18] rfl))
        · skip
          have c_2114 : ¬ 3 ≤ lF σ := fun q => c_2114 ((nI_leI (a := 3) (b := (lF σ)) (by omega) (by omega)).mpr q)
          rw [if_neg c_2114] at hG
          refine lv_aload_n hx hb dL_law_2117 rfl (lv_at hl 2 rfl) ?_
          refine lv_iload hx hb dL_law_2118 (lv_at hl 13 rfl) ?_
          refine lv_aload_n hx hb dL_law_2120 rfl (lv_at hl 3 rfl) ?_
          refine lv_aload hx hb dL_law_2121 (lv_at hl 5 rfl) ?_
          refine lv_iload hx hb dL_law_2123 (lv_at hl 14 rfl) ?_
          refine lv_aload hx hb dL_law_2125 (lv_at hl 6 rfl) ?_
          refine lv_aload hx hb dL_law_2127 (lv_at hl 7 rfl) ?_
          refine lv_aload hx hb dL_law_2129 (lv_at hl 10 rfl) ?_
          refine lv_iload hx hb dL_law_2131 (lv_at hl 15 rfl) ?_
          refine lv_iload hx hb dL_law_2133 (lv_at hl 19 rfl) ?_
          refine xcsR (As := [.ref (ar 0), .int (nI n14), .ref (ar 1), .ref (ar 3), .int (nI n15), .ref (ar 4), .ref (ar 5), .ref (ar 7), .int (nI n16), .int (nI (lF σ))]) (rest := []) (v := some (.long (fL_cost σ n14 n15 n16 (lF σ)))) ⟨hx, hb, hml, hown, hts⟩ (mL_cost l s.heap.size D E h σ ar hL hW n14 n15 n16 (lF σ) (by first | assumption | omega) (by first | assumption | omega) (by first | assumption | omega) (by first | assumption | omega)) (va_cwS 10 hts gL_law_L_cost rfl rfl rfl (by decide +kernel) ⟨Nat.le_of_ble_eq_true rfl, Nat.le_of_ble_eq_true rfl⟩) I rfl hl.1 rfl (Nat.le_of_ble_eq_true rfl) dL_law_2135 ⟨show cells + 0 ≤ 600086 by omega, show slots + 0 ≤ 7301442 by omega⟩ ?_
          refine W.eq (g2 := F0 m 2138 ls [.long (fL_cost σ n14 n15 n16 (lF σ))]) rfl ?_
          refine lv_lstore (lv' := [(28, .long (fL_cost σ n14 n15 n16 (lF σ))), (0, .ref b), (1, .ref (ad 0 0)), (2, .ref (ar 0)), (3, .ref (ar 1)), (4, .ref (ar 2)), (5, .ref (ar 3)), (6, .ref (ar 4)), (7, .ref (ar 5)), (8, .ref (ar 6)), (9, .ref (ar 8)), (10, .ref (ar 7)), (11, .ref (ar 9)), (12, .long q12), (14, .int (nI n14)), (15, .int (nI n15)), (16, .int (nI n16)), (17, .int (nI n17)), (18, .int (nI n18)), (19, .int (nI n19)), (26, .int (nI (lF σ))), (27, .int a2062_27)]) hx hb dL_law_2138 hl (by decide) rfl (fun ls hl => ?_)
          refine lv_aload_n hx hb dL_law_2140 rfl (lv_at hl 2 rfl) ?_
          refine lv_iload hx hb dL_law_2141 (lv_at hl 20 rfl) ?_
          cases e2143 : (fL_closed τ (nI (lF σ))) with
          | inl En => rw [e2143] at hG; exact absurd (show (none : Option ST) = some st from hG) (fun z => nomatch z)
          | inr x2143 =>
            rw [e2143] at hG
            have hG : (fS2026_B2159 σ τ q12 n14 n15 n16 n17 a2062_27 x2143 (if a2062_27 = 0 then (-1 : Int64) else (fL_cost σ n14 n15 n16 (lF σ)))) = some st := hG
            refine xcsB (As := [.ref (ad 0 0), .int (nI (lF σ))]) (rest := []) ⟨hx, hb, hml, hown, hts⟩ (mL_closed l s.heap.size D E h hlst (lPr ar) τ ad fa hR hC (nI (lF σ)) ⟨_, e2143⟩) (vx_cwSW 2 hts gL_law_L_closed rfl rfl rfl (by decide +kernel) ⟨Nat.le_of_ble_eq_true rfl, Nat.le_of_ble_eq_true rfl⟩) I hCa hS rfl hl.1 rfl (Nat.le_of_ble_eq_true rfl) dL_law_2143 ⟨show cells + 3 ≤ 600086 by omega, show slots + 18 ≤ 7301442 by omega⟩ (fun v9 hw H locs q9 I hS => ?_)
            obtain ⟨y9, e9, q1, ad_2143, fa_2143, hR, hF, hC, h00_2143⟩ := q9
            have e9 := Sum.inr.inj (e2143.symm.trans e9)
            subst e9
            subst q1
            have hL := hL.keep hF
            try rw [← h00_2143] at hl
            refine W.eq (g2 := F0 m 2146 ls [.long x2143.1]) rfl ?_
            refine lv_iload hx hb dL_law_2146 (lv_at hl 21 rfl) ?_
            have B2159 : ∀ (v2159_0 : Int64), fS2026_B2159 σ τ q12 n14 n15 n16 n17 a2062_27 x2143 v2159_0 = some st → ∀ ls : Array Slot, lv_has ls 39 [(0, .ref b), (1, .ref (ad_2143 0 0)), (2, .ref (ar 0)), (3, .ref (ar 1)), (4, .ref (ar 2)), (5, .ref (ar 3)), (6, .ref (ar 4)), (7, .ref (ar 5)), (8, .ref (ar 6)), (9, .ref (ar 8)), (10, .ref (ar 7)), (11, .ref (ar 9)), (12, .long q12), (14, .int (nI n14)), (15, .int (nI n15)), (16, .int (nI n16)), (17, .int (nI n17)), (18, .int (nI n18)), (19, .int (nI n19)), (26, .int (nI (lF σ))), (27, .int a2062_27), (28, .long (fL_cost σ n14 n15 n16 (lF σ)))] → W p l e room_1 s m #[Value.ref b] below meth c H locs (cells + 3) (slots + 18) Q (F0 m 2159 ls [.long v2159_0, .long x2143.1]) := by
              intro v2159_0 hG ls hl
              unfold fS2026_B2159 at hG
              refine xl_eq (tgt := 2165) hx hb dL_law_2159 dL_law_2160 (by decide) (fun c_2159 => ?_) (fun c_2159 => ?_)
              · skip
                rw [if_pos c_2159] at hG
                refine lv_iload hx hb dL_law_2165 (lv_at hl 20 rfl) ?_
                refine lv_if_eq (tgt := 2515) hx hb dL_law_2167 (by decide) (fun c_2167 => ?_) (fun c_2167 => ?_)
                · skip
                  rw [if_pos c_2167] at hG
                  refine lv_goto (tgt := 2560) hx hb dL_law_2515 (by decide) ?_
                  have hst := Option.some.inj (show some (σ, x2143.2, q12, n14, n15, n16, n17) = some st from hG)
                  subst hst
                  exact W.widen (by omega) (by omega) (kk _ _ _ _ _ _ I hL hR hS hW hC (lv_sub hl [0, 1, 2, 3, 4, 5, 6, 7, 8, 9, 10, 11, 12, 13, 14, 15, 16, 17, 18] rfl))
                · skip
                  rw [if_neg c_2167] at hG
                  exact sS2170 F I hL hR hS hW hC (by omega) (by omega) (by omega) (by omega) (by omega) (by omega) (by first | assumption | omega) (by omega) (by omega) hK1 hK2 (lv_sub hl [0, 1, 2, 3, 4, 5, 6, 7, 8, 9, 10, 11, 12, 13, 14, 15, 16, 17, 18, 19, 21] rfl) kk hG
              · skip
                rw [if_neg c_2159] at hG
                refine lv_iconst (v := (nI 0)) hx hb dL_law_2163 (by decide) ?_
                exact absurd (show (none : Option ST) = some st from hG) (fun z => nomatch z)
            refine lv_if_eq (tgt := 2156) hx hb dL_law_2148 (by decide) (fun c_2148 => ?_) (fun c_2148 => ?_)
            · skip
              rw [if_pos c_2148] at hG
              refine lv_ldc2 (v := (-1 : Int64)) hx hb hown (hts _ (List.mem_of_getElem? (i := 13) rfl)) dL_law_2156 ?_
              exact B2159 (-1 : Int64) hG ls (lv_sub hl [1, 2, 3, 4, 5, 6, 7, 8, 9, 10, 11, 12, 13, 14, 15, 16, 17, 18, 19, 20, 21, 0] rfl)
            · skip
              rw [if_neg c_2148] at hG
              refine lv_lload hx hb dL_law_2151 (lv_at hl 0 rfl) ?_
              refine lv_goto (tgt := 2159) hx hb dL_law_2153 (by decide) ?_
              exact B2159 (fL_cost σ n14 n15 n16 (lF σ)) hG ls (lv_sub hl [1, 2, 3, 4, 5, 6, 7, 8, 9, 10, 11, 12, 13, 14, 15, 16, 17, 18, 19, 20, 21, 0] rfl)
      | succ n2062 ih2062 =>
        intro k2062 a2062_27 hkn za2062_27 hG ls hl
        have hk : k2062 < n15 := by omega
        have hG : lseq ((if (lK σ 3 (6 * k2062 + 2)) / 100 = lF σ then (if (lK σ 3 (6 * k2062 + 5)) &&& 1 = 0 then (nI 0) else a2062_27) else a2062_27)) (fun q => fS2026_L2062 σ τ q12 n14 n15 n16 n17 n2062 (k2062 + 1) q) = some st := hG
        refine lv_iload hx hb dL_law_2062 (lv_at hl 21 rfl) ?_
        refine lv_iload hx hb dL_law_2064 (lv_at hl 14 rfl) ?_
        refine lv_icmp_ge (tgt := 2111) hx hb dL_law_2066 (by decide) (fun q => absurd q (nI_ge hk (by omega))) (fun _ => ?_)
        refine lv_aload hx hb dL_law_2069 (lv_at hl 5 rfl) ?_
        refine lv_bipush (v := (nI 6)) hx hb dL_law_2071 (by decide) ?_
        refine lv_iload hx hb dL_law_2073 (lv_at hl 21 rfl) ?_
        refine lv_imul hx hb dL_law_2075 ?_
        refine xtop (y := .int (nI (6 * k2062))) (congrArg Value.int (pk_mul _ _)) ?_
        refine lv_iconst (v := (nI 2)) hx hb dL_law_2076 (by decide) ?_
        refine lv_iadd hx hb dL_law_2077 ?_
        refine xtop (y := .int (nI (6 * k2062 + 2))) (congrArg Value.int (nI_add _ _)) ?_
        refine xiald (i := (6 * k2062 + 2)) (n := 64) hx hb I (hL.1 3 64 (by decide)) (by omega) (by decide) dL_law_2078 ?_
        have g2078 : lK σ 3 (6 * k2062 + 2) < 1073741824 := hW.2.2.2.2.2.1 3 (6 * k2062 + 2)
        have b2078 : lK σ 3 (6 * k2062 + 2) < 300 := hW.2.2.2.1 k2062
        refine lv_bipush (v := (nI 100)) hx hb dL_law_2079 (by decide) ?_
        refine lv_idiv hx hb dL_law_2081 (by decide) ?_
        refine xtop (y := .int (nI ((lK σ 3 (6 * k2062 + 2)) / 100))) (congrArg Value.int (pk_div (by omega) (by decide) (by decide))) ?_
        refine lv_iload hx hb dL_law_2082 (lv_at hl 19 rfl) ?_
        refine lv_icmp_ne (tgt := 2105) hx hb dL_law_2084 (by decide) (fun c_2084 => ?_) (fun c_2084 => ?_)
        · skip
          have c_2084 : ¬ (lK σ 3 (6 * k2062 + 2)) / 100 = lF σ := fun q => c_2084 ((nI_eq (a := ((lK σ 3 (6 * k2062 + 2)) / 100)) (b := (lF σ)) (by omega) (by omega)).mpr q)
          rw [if_neg c_2084] at hG
          refine lv_iinc (v := (nI (k2062 + 1))) (lv' := [(28, .int (nI (k2062 + 1))), (0, .ref b), (1, .ref (ad 0 0)), (2, .ref (ar 0)), (3, .ref (ar 1)), (4, .ref (ar 2)), (5, .ref (ar 3)), (6, .ref (ar 4)), (7, .ref (ar 5)), (8, .ref (ar 6)), (9, .ref (ar 8)), (10, .ref (ar 7)), (11, .ref (ar 9)), (12, .long q12), (14, .int (nI n14)), (15, .int (nI n15)), (16, .int (nI n16)), (17, .int (nI n17)), (18, .int (nI n18)), (19, .int (nI n19)), (26, .int (nI (lF σ))), (27, .int a2062_27)]) hx hb dL_law_2105 hl (k := 21) rfl (nI_succ k2062).symm (by decide) rfl (fun ls hl => ?_)
          refine lv_goto (tgt := 2062) hx hb dL_law_2108 (by decide) ?_
          exact ih2062 (k2062 + 1) a2062_27 (by first | omega | (simp only [lSI_K]; omega)) za2062_27 hG ls (lv_sub hl [1, 2, 3, 4, 5, 6, 7, 8, 9, 10, 11, 12, 13, 14, 15, 16, 17, 18, 19, 20, 21, 0] rfl)
        · skip
          have c_2084 : (lK σ 3 (6 * k2062 + 2)) / 100 = lF σ := (nI_eq (a := ((lK σ 3 (6 * k2062 + 2)) / 100)) (b := (lF σ)) (by omega) (by omega)).mp c_2084
          rw [if_pos c_2084] at hG
          refine lv_aload hx hb dL_law_2087 (lv_at hl 5 rfl) ?_
          refine lv_bipush (v := (nI 6)) hx hb dL_law_2089 (by decide) ?_
          refine lv_iload hx hb dL_law_2091 (lv_at hl 21 rfl) ?_
          refine lv_imul hx hb dL_law_2093 ?_
          refine xtop (y := .int (nI (6 * k2062))) (congrArg Value.int (pk_mul _ _)) ?_
          refine lv_iconst (v := (nI 5)) hx hb dL_law_2094 (by decide) ?_
          refine lv_iadd hx hb dL_law_2095 ?_
          refine xtop (y := .int (nI (6 * k2062 + 5))) (congrArg Value.int (nI_add _ _)) ?_
          refine xiald (i := (6 * k2062 + 5)) (n := 64) hx hb I (hL.1 3 64 (by decide)) (by omega) (by decide) dL_law_2096 ?_
          have g2096 : lK σ 3 (6 * k2062 + 5) < 1073741824 := hW.2.2.2.2.2.1 3 (6 * k2062 + 5)
          refine lv_iconst (v := (nI 1)) hx hb dL_law_2097 (by decide) ?_
          refine lv_iand hx hb dL_law_2098 ?_
          refine xtop (y := .int (nI ((lK σ 3 (6 * k2062 + 5)) &&& 1))) (congrArg Value.int nI_and) ?_
          have h2098 : (lK σ 3 (6 * k2062 + 5)) &&& 1 ≤ 1 := Nat.and_le_right
          refine lv_if_ne (tgt := 2105) hx hb dL_law_2099 (by decide) (fun c_2099 => ?_) (fun c_2099 => ?_)
          · skip
            have c_2099 : ¬ (lK σ 3 (6 * k2062 + 5)) &&& 1 = 0 := fun q => c_2099 ((nI_eq (a := ((lK σ 3 (6 * k2062 + 5)) &&& 1)) (b := 0) (by omega) (by omega)).mpr q)
            rw [if_neg c_2099] at hG
            refine lv_iinc (v := (nI (k2062 + 1))) (lv' := [(28, .int (nI (k2062 + 1))), (0, .ref b), (1, .ref (ad 0 0)), (2, .ref (ar 0)), (3, .ref (ar 1)), (4, .ref (ar 2)), (5, .ref (ar 3)), (6, .ref (ar 4)), (7, .ref (ar 5)), (8, .ref (ar 6)), (9, .ref (ar 8)), (10, .ref (ar 7)), (11, .ref (ar 9)), (12, .long q12), (14, .int (nI n14)), (15, .int (nI n15)), (16, .int (nI n16)), (17, .int (nI n17)), (18, .int (nI n18)), (19, .int (nI n19)), (26, .int (nI (lF σ))), (27, .int a2062_27)]) hx hb dL_law_2105 hl (k := 21) rfl (nI_succ k2062).symm (by decide) rfl (fun ls hl => ?_)
            refine lv_goto (tgt := 2062) hx hb dL_law_2108 (by decide) ?_
            exact ih2062 (k2062 + 1) a2062_27 (by first | omega | (simp only [lSI_K]; omega)) za2062_27 hG ls (lv_sub hl [1, 2, 3, 4, 5, 6, 7, 8, 9, 10, 11, 12, 13, 14, 15, 16, 17, 18, 19, 20, 21, 0] rfl)
          · skip
            have c_2099 : (lK σ 3 (6 * k2062 + 5)) &&& 1 = 0 := (nI_eq (a := ((lK σ 3 (6 * k2062 + 5)) &&& 1)) (b := 0) (by omega) (by omega)).mp c_2099
            rw [if_pos c_2099] at hG
            refine lv_iconst (v := (nI 0)) hx hb dL_law_2102 (by decide) ?_
            refine lv_istore (lv' := [(27, .int (nI 0)), (0, .ref b), (1, .ref (ad 0 0)), (2, .ref (ar 0)), (3, .ref (ar 1)), (4, .ref (ar 2)), (5, .ref (ar 3)), (6, .ref (ar 4)), (7, .ref (ar 5)), (8, .ref (ar 6)), (9, .ref (ar 8)), (10, .ref (ar 7)), (11, .ref (ar 9)), (12, .long q12), (14, .int (nI n14)), (15, .int (nI n15)), (16, .int (nI n16)), (17, .int (nI n17)), (18, .int (nI n18)), (19, .int (nI n19)), (26, .int (nI (lF σ))), (28, .int (nI k2062))]) hx hb dL_law_2103 hl (by decide) rfl (fun ls hl => ?_)
            refine lv_iinc (v := (nI (k2062 + 1))) (lv' := [(28, .int (nI (k2062 + 1))), (27, .int (nI 0)), (0, .ref b), (1, .ref (ad 0 0)), (2, .ref (ar 0)), (3, .ref (ar 1)), (4, .ref (ar 2)), (5, .ref (ar 3)), (6, .ref (ar 4)), (7, .ref (ar 5)), (8, .ref (ar 6)), (9, .ref (ar 8)), (10, .ref (ar 7)), (11, .ref (ar 9)), (12, .long q12), (14, .int (nI n14)), (15, .int (nI n15)), (16, .int (nI n16)), (17, .int (nI n17)), (18, .int (nI n18)), (19, .int (nI n19)), (26, .int (nI (lF σ)))]) hx hb dL_law_2105 hl (k := 21) rfl (nI_succ k2062).symm (by decide) rfl (fun ls hl => ?_)
            refine lv_goto (tgt := 2062) hx hb dL_law_2108 (by decide) ?_
            exact ih2062 (k2062 + 1) (nI 0) (by first | omega | (simp only [lSI_K]; omega)) (Or.inl rfl) hG ls (lv_sub hl [2, 3, 4, 5, 6, 7, 8, 9, 10, 11, 12, 13, 14, 15, 16, 17, 18, 19, 20, 21, 1, 0] rfl)
    exact L2062 n15 0 v2057_0 (by omega) zv2057_0 hG ls (lv_sub hl [2, 3, 4, 5, 6, 7, 8, 9, 10, 11, 12, 13, 14, 15, 16, 17, 18, 19, 20, 21, 1, 0] rfl)
  refine lv_icmp_ge (tgt := 2056) hx hb dL_law_2036 (by decide) (fun c_2036 => ?_) (fun c_2036 => ?_)
  · skip
    have c_2036 : 3 ≤ lF σ := (nI_leI (a := 3) (b := (lF σ)) (by omega) (by omega)).mp c_2036
    rw [if_pos c_2036] at hG
    refine lv_iconst (v := (nI 0)) hx hb dL_law_2056 (by decide) ?_
    exact B2057 (nI 0) (Or.inl rfl) hG ls (lv_sub hl [1, 2, 3, 4, 5, 6, 7, 8, 9, 10, 11, 12, 13, 14, 15, 16, 17, 18, 19, 0] rfl)
  · skip
    have c_2036 : ¬ 3 ≤ lF σ := fun q => c_2036 ((nI_leI (a := 3) (b := (lF σ)) (by omega) (by omega)).mpr q)
    rw [if_neg c_2036] at hG
    refine lv_iload hx hb dL_law_2039 (lv_at hl 17 rfl) ?_
    refine lv_bipush (v := (nI 100)) hx hb dL_law_2041 (by decide) ?_
    refine lv_iload hx hb dL_law_2043 (lv_at hl 0 rfl) ?_
    refine lv_imul hx hb dL_law_2045 ?_
    refine xtop (y := .int (nI (100 * (lF σ)))) (congrArg Value.int (pk_mul _ _)) ?_
    refine lv_bipush (v := (nI 100)) hx hb dL_law_2046 (by decide) ?_
    refine lv_iadd hx hb dL_law_2048 ?_
    refine xtop (y := .int (nI (100 * (lF σ) + 100))) (congrArg Value.int (nI_add _ _)) ?_
    refine lv_icmp_lt (tgt := 2056) hx hb dL_law_2049 (by decide) (fun c_2049 => ?_) (fun c_2049 => ?_)
    · skip
      have c_2049 : n17 < 100 * (lF σ) + 100 := (nI_ltI (a := n17) (b := (100 * (lF σ) + 100)) (by omega) (by omega)).mp c_2049
      rw [if_pos c_2049] at hG
      refine lv_iconst (v := (nI 0)) hx hb dL_law_2056 (by decide) ?_
      exact B2057 (nI 0) (Or.inl rfl) hG ls (lv_sub hl [1, 2, 3, 4, 5, 6, 7, 8, 9, 10, 11, 12, 13, 14, 15, 16, 17, 18, 19, 0] rfl)
    · skip
      have c_2049 : ¬ n17 < 100 * (lF σ) + 100 := fun q => c_2049 ((nI_ltI (a := n17) (b := (100 * (lF σ) + 100)) (by omega) (by omega)).mpr q)
      rw [if_neg c_2049] at hG
      refine lv_iconst (v := (nI 1)) hx hb dL_law_2052 (by decide) ?_
      refine lv_goto (tgt := 2057) hx hb dL_law_2053 (by decide) ?_
      exact B2057 (nI 1) (Or.inr rfl) hG ls (lv_sub hl [1, 2, 3, 4, 5, 6, 7, 8, 9, 10, 11, 12, 13, 14, 15, 16, 17, 18, 19, 0] rfl)

def fS2518 (σ : LT) (τ : CT) (q12 : Int64) (n14 : Nat) (n15 : Nat) (n16 : Nat) (n17 : Nat) (y1 : Int32) : Option ST := (if 300 ≤ n17 + (1 + (lowN y1 40)) then (some (σ, τ, q12, n14, n15, n16, n17)) else (lcall none (fX7_pass τ (nI (1 + (lowN y1 40)))) (fun x2550 => (if x2550.1 = (nI (n17 + (1 + (lowN y1 40)))) then (some (σ, x2550.2, q12, n14, n15, n16, n17 + (1 + (lowN y1 40)))) else none))))
set_option maxHeartbeats 4000000 in
set_option maxRecDepth 100000 in
theorem sS2518 {p : Program} {l : Launch} {e : Env} {s : State} {m : MethodId} {below : List Frame} {meth : Method} {c : Code} {b L : Nat} {xs : Nat → Int32} {Q : State → Prop} {D : va_G} {E : Nat → ClassId} {σ : LT} {τ : CT} {ad : Nat → Nat → Nat} {fa : Nat → Nat → Option Nat} {ar : Nat → Nat} {h : XW} {H : Heap} {locs : List Loc} {cells slots K Ks : Nat}  {q12 : Int64} {n14 n15 n16 n17 n18 n19 : Nat} {y1 : Int32} {st : ST} {ls : Array Slot} (F : LF p l s m c b L xs) (I : XI s.heap.size D E h s H) (hL : RA E σ ar h) (hR : RC E (lPr ar) τ ad fa h) (hS : va_S (xA s.heap.size) s.heap H locs) (hW : LW σ) (hC : CW τ)  (h14 : n14 ≤ 12) (h15 : n15 ≤ 10) (h16 : n16 ≤ 10) (h17 : n17 < 300) (h18 : n18 < 1000) (h19 : n19 < 44) (hc1 : cells + 100 ≤ K) (hc2 : slots + 1000 ≤ Ks) (hK1 : K ≤ 600086) (hK2 : Ks ≤ 7301442) (hl : lv_has ls 39 [(0, .ref b), (1, .ref (ad 0 0)), (2, .ref (ar 0)), (3, .ref (ar 1)), (4, .ref (ar 2)), (5, .ref (ar 3)), (6, .ref (ar 4)), (7, .ref (ar 5)), (8, .ref (ar 6)), (9, .ref (ar 8)), (10, .ref (ar 7)), (11, .ref (ar 9)), (12, .long q12), (14, .int (nI n14)), (15, .int (nI n15)), (16, .int (nI n16)), (17, .int (nI n17)), (18, .int (nI n18)), (19, .int (nI n19)), (21, .int y1)]) (kk : lKK p l e s m below meth c b D E ar Q K Ks n18 n19 2560 st) (hG : fS2518 σ τ q12 n14 n15 n16 n17 y1 = some st) : W p l e room_1 s m #[Value.ref b] below meth c H locs cells slots Q (F0 m 2518 ls []) := by
  obtain ⟨hx, hb, hml, hown, hts, hX, hbl, hCa, hlst, hLL⟩ := id F
  have hbA : ¬ xA s.heap.size b := Nat.not_le.mpr hbl
  unfold fS2518 at hG
  refine lv_iconst (v := (nI 1)) hx hb dL_law_2518 (by decide) ?_
  refine lv_iload hx hb dL_law_2519 (lv_at hl 19 rfl) ?_
  refine lv_bipush (v := (nI 40)) hx hb dL_law_2521 (by decide) ?_
  refine xcsR (As := [.int y1, .int (nI 40)]) (rest := [.int (nI 1)]) (v := some (.int (nI (lowN y1 40)))) ⟨hx, hb, hml, hown, hts⟩ (mL_low l s.heap.size D E h y1 40 (by first | assumption | omega) (by first | assumption | omega)) (va_cwS 2 hts gL_law_L_low rfl rfl rfl (by decide +kernel) ⟨Nat.le_of_ble_eq_true rfl, Nat.le_of_ble_eq_true rfl⟩) I rfl hl.1 rfl (Nat.le_of_ble_eq_true rfl) dL_law_2523 ⟨show cells + 0 ≤ 600086 by omega, show slots + 0 ≤ 7301442 by omega⟩ ?_
  refine W.eq (g2 := F0 m 2526 ls [.int (nI (lowN y1 40)), .int (nI 1)]) rfl ?_
  have l2523 : lowN y1 40 < 40 := lowN_lt _ (by omega)
  refine lv_iadd hx hb dL_law_2526 ?_
  refine xtop (y := .int (nI (1 + (lowN y1 40)))) (congrArg Value.int (nI_add _ _)) ?_
  refine lv_istore (lv' := [(26, .int (nI (1 + (lowN y1 40)))), (0, .ref b), (1, .ref (ad 0 0)), (2, .ref (ar 0)), (3, .ref (ar 1)), (4, .ref (ar 2)), (5, .ref (ar 3)), (6, .ref (ar 4)), (7, .ref (ar 5)), (8, .ref (ar 6)), (9, .ref (ar 8)), (10, .ref (ar 7)), (11, .ref (ar 9)), (12, .long q12), (14, .int (nI n14)), (15, .int (nI n15)), (16, .int (nI n16)), (17, .int (nI n17)), (18, .int (nI n18)), (19, .int (nI n19)), (21, .int y1)]) hx hb dL_law_2527 hl (by decide) rfl (fun ls hl => ?_)
  refine lv_iload hx hb dL_law_2529 (lv_at hl 17 rfl) ?_
  refine lv_iload hx hb dL_law_2531 (lv_at hl 0 rfl) ?_
  refine lv_iadd hx hb dL_law_2533 ?_
  refine xtop (y := .int (nI (n17 + (1 + (lowN y1 40))))) (congrArg Value.int (nI_add _ _)) ?_
  refine lv_sipush (v := (nI 300)) hx hb dL_law_2534 (by decide) ?_
  refine lv_icmp_ge (tgt := 2560) hx hb dL_law_2537 (by decide) (fun c_2537 => ?_) (fun c_2537 => ?_)
  · skip
    have c_2537 : 300 ≤ n17 + (1 + (lowN y1 40)) := (nI_leI (a := 300) (b := (n17 + (1 + (lowN y1 40)))) (by omega) (by omega)).mp c_2537
    rw [if_pos c_2537] at hG
    have hst := Option.some.inj (show some (σ, τ, q12, n14, n15, n16, n17) = some st from hG)
    subst hst
    exact W.widen (by omega) (by omega) (kk _ _ _ _ _ _ I hL hR hS hW hC (lv_sub hl [1, 2, 3, 4, 5, 6, 7, 8, 9, 10, 11, 12, 13, 14, 15, 16, 17, 18, 19] rfl))
  · skip
    have c_2537 : ¬ 300 ≤ n17 + (1 + (lowN y1 40)) := fun q => c_2537 ((nI_leI (a := 300) (b := (n17 + (1 + (lowN y1 40)))) (by omega) (by omega)).mpr q)
    rw [if_neg c_2537] at hG
    refine lv_iload hx hb dL_law_2540 (lv_at hl 17 rfl) ?_
    refine lv_iload hx hb dL_law_2542 (lv_at hl 0 rfl) ?_
    refine lv_iadd hx hb dL_law_2544 ?_
    refine xtop (y := .int (nI (n17 + (1 + (lowN y1 40))))) (congrArg Value.int (nI_add _ _)) ?_
    refine lv_istore (lv' := [(17, .int (nI (n17 + (1 + (lowN y1 40))))), (26, .int (nI (1 + (lowN y1 40)))), (0, .ref b), (1, .ref (ad 0 0)), (2, .ref (ar 0)), (3, .ref (ar 1)), (4, .ref (ar 2)), (5, .ref (ar 3)), (6, .ref (ar 4)), (7, .ref (ar 5)), (8, .ref (ar 6)), (9, .ref (ar 8)), (10, .ref (ar 7)), (11, .ref (ar 9)), (12, .long q12), (14, .int (nI n14)), (15, .int (nI n15)), (16, .int (nI n16)), (18, .int (nI n18)), (19, .int (nI n19)), (21, .int y1)]) hx hb dL_law_2545 hl (by decide) rfl (fun ls hl => ?_)
    refine lv_aload_n hx hb dL_law_2547 rfl (lv_at hl 3 rfl) ?_
    refine lv_iload hx hb dL_law_2548 (lv_at hl 1 rfl) ?_
    cases e2550 : (fX7_pass τ (nI (1 + (lowN y1 40)))) with
    | inl En => rw [e2550] at hG; exact absurd (show (none : Option ST) = some st from hG) (fun z => nomatch z)
    | inr x2550 =>
      rw [e2550] at hG
      have hG : (if x2550.1 = (nI (n17 + (1 + (lowN y1 40)))) then (some (σ, x2550.2, q12, n14, n15, n16, n17 + (1 + (lowN y1 40)))) else none) = some st := hG
      refine xcvN (As := [.int (nI (1 + (lowN y1 40)))]) (rest := []) ⟨hx, hb, hml, hown, hts⟩ (mX7_pass l s.heap.size D E h hlst (lPr ar) τ ad fa hR hC (nI (1 + (lowN y1 40)))) (cwV 1 hts gL_law_X7_pass rfl rfl rfl (by decide +kernel) ⟨Nat.le_of_ble_eq_true rfl, Nat.le_of_ble_eq_true rfl⟩) I hS hR.f0 rfl rfl hl.1 rfl (Nat.le_of_ble_eq_true rfl) dL_law_2550 ⟨show cells + 2 ≤ 600086 by omega, show slots + 12 ≤ 7301442 by omega⟩ (fun En q => by rw [e2550] at q; cases q) (fun v9 hw H locs q9 I hS => ?_)
      obtain ⟨y9, e9, q1, hR, hF, hC⟩ := q9
      have e9 := Sum.inr.inj (e2550.symm.trans e9)
      subst e9
      subst q1
      have hL := hL.keep hF
      refine W.eq (g2 := F0 m 2553 ls [.int x2550.1]) rfl ?_
      refine lv_iload hx hb dL_law_2553 (lv_at hl 0 rfl) ?_
      refine lv_icmp_eq (tgt := 2560) hx hb dL_law_2555 (by decide) (fun c_2555 => ?_) (fun c_2555 => ?_)
      · skip
        rw [if_pos c_2555] at hG
        have hst := Option.some.inj (show some (σ, x2550.2, q12, n14, n15, n16, n17 + (1 + (lowN y1 40))) = some st from hG)
        subst hst
        exact W.widen (by omega) (by omega) (kk _ _ _ _ _ _ I hL hR hS hW hC (lv_sub hl [2, 3, 4, 5, 6, 7, 8, 9, 10, 11, 12, 13, 14, 15, 16, 17, 0, 18, 19] rfl))
      · skip
        rw [if_neg c_2555] at hG
        refine lv_iconst (v := (nI 0)) hx hb dL_law_2558 (by decide) ?_
        exact absurd (show (none : Option ST) = some st from hG) (fun z => nomatch z)
