def fSI_S253 (xs : Nat → Int32) (L : Nat) (σ : LT) (τ : CT) (τ112 : CT) (k253 : Nat) (σ253 : LT) : (LT) := (lSI σ253 7 (9 + k253) (-1))
def fSI_L253 (xs : Nat → Int32) (L : Nat) (σ : LT) (τ : CT) (τ112 : CT) : Nat → Nat → LT → Option ST
  | 0, k253, σ253 => (some (σ253, τ112, (0 : Int64), 0, 0, 0, 0))
  | n253 + 1, k253, σ253 => lseq (fSI_S253 xs L σ τ τ112 k253 σ253) (fun q => fSI_L253 xs L σ τ τ112 n253 (k253 + 1) q)
def fSI_S231 (xs : Nat → Int32) (L : Nat) (σ : LT) (τ : CT) (τ112 : CT) (k231 : Nat) (σ231 : LT) : (LT) := (lSI σ231 5 k231 (-1))
def fSI_L231 (xs : Nat → Int32) (L : Nat) (σ : LT) (τ : CT) (τ112 : CT) : Nat → Nat → LT → Option ST
  | 0, k231, σ231 => (fSI_L253 xs L σ τ τ112 3 0 σ231)
  | n231 + 1, k231, σ231 => lseq (fSI_S231 xs L σ τ τ112 k231 σ231) (fun q => fSI_L231 xs L σ τ τ112 n231 (k231 + 1) q)
def fSI_S209 (xs : Nat → Int32) (L : Nat) (σ : LT) (τ : CT) (τ112 : CT) (k209 : Nat) (σ209 : LT) : (LT) := (lSI σ209 4 k209 (-1))
def fSI_L209 (xs : Nat → Int32) (L : Nat) (σ : LT) (τ : CT) (τ112 : CT) : Nat → Nat → LT → Option ST
  | 0, k209, σ209 => (fSI_L231 xs L σ τ τ112 9 0 σ209)
  | n209 + 1, k209, σ209 => lseq (fSI_S209 xs L σ τ τ112 k209 σ209) (fun q => fSI_L209 xs L σ τ τ112 n209 (k209 + 1) q)
def fSI_S186 (xs : Nat → Int32) (L : Nat) (σ : LT) (τ : CT) (τ112 : CT) (k186 : Nat) (σ186 : LT) : (LT) := (lSK σ186 2 k186 100)
def fSI_L186 (xs : Nat → Int32) (L : Nat) (σ : LT) (τ : CT) (τ112 : CT) : Nat → Nat → LT → Option ST
  | 0, k186, σ186 => (fSI_L209 xs L σ τ τ112 24 0 σ186)
  | n186 + 1, k186, σ186 => lseq (fSI_S186 xs L σ τ τ112 k186 σ186) (fun q => fSI_L186 xs L σ τ τ112 n186 (k186 + 1) q)
def fSI_S112 (xs : Nat → Int32) (L : Nat) (σ : LT) (τ : CT) (k112 : Nat) (σ112 : LT) (τ112 : CT) : ((LT × CT) ⊕ Option ST) := (lcall (Sum.inr none) (fX7_ship τ112 (nI (lK (lSK (lSK σ112 1 k112 (lowN (fL_cell xs L k112) 3)) 1 (8 + k112) (1 + (lowN ((fL_cell xs L k112) >>> ((nI 3) &&& 31)) 999))) 1 k112)) (nI (lK (lSK (lSK σ112 1 k112 (lowN (fL_cell xs L k112) 3)) 1 (8 + k112) (1 + (lowN ((fL_cell xs L k112) >>> ((nI 3) &&& 31)) 999))) 1 (8 + k112)))) (fun x167 => (if x167.1 = (nI k112) then (Sum.inl ((lSK (lSK σ112 1 k112 (lowN (fL_cell xs L k112) 3)) 1 (8 + k112) (1 + (lowN ((fL_cell xs L k112) >>> ((nI 3) &&& 31)) 999))), x167.2)) else (Sum.inr none))))
def fSI_L112 (xs : Nat → Int32) (L : Nat) (σ : LT) (τ : CT) : Nat → Nat → LT → CT → Option ST
  | 0, k112, σ112, τ112 => (fSI_L186 xs L σ τ τ112 9 0 σ112)
  | n112 + 1, k112, σ112, τ112 => lbind (fSI_S112 xs L σ τ k112 σ112 τ112) (fun q => fSI_L112 xs L σ τ n112 (k112 + 1) q.1 q.2)
def fSI_S86 (xs : Nat → Int32) (L : Nat) (σ : LT) (τ : CT) (k86 : Nat) (τ86 : CT) : ((CT) ⊕ Option ST) := (lcall (Sum.inr none) (fX7_member τ86) (fun x93 => (if x93.1 = (nI k86) then (Sum.inl x93.2) else (Sum.inr none))))
def fSI_L86 (xs : Nat → Int32) (L : Nat) (σ : LT) (τ : CT) : Nat → Nat → CT → Option ST
  | 0, k86, τ86 => (fSI_L112 xs L σ τ 5 0 σ τ86)
  | n86 + 1, k86, τ86 => lbind (fSI_S86 xs L σ τ k86 τ86) (fun q => fSI_L86 xs L σ τ n86 (k86 + 1) q)
def fSI (xs : Nat → Int32) (L : Nat) (σ : LT) (τ : CT) : Option ST := (fSI_L86 xs L σ τ 3 0 τ)
set_option maxHeartbeats 4000000 in
set_option maxRecDepth 100000 in
theorem sSI {p : Program} {l : Launch} {e : Env} {s : State} {m : MethodId} {below : List Frame} {meth : Method} {c : Code} {b L : Nat} {xs : Nat → Int32} {Q : State → Prop} {D : va_G} {E : Nat → ClassId} {σ : LT} {τ : CT} {ad : Nat → Nat → Nat} {fa : Nat → Nat → Option Nat} {ar : Nat → Nat} {h : XW} {H : Heap} {locs : List Loc} {cells slots K Ks : Nat}  {st : ST} {ls : Array Slot} (F : LF p l s m c b L xs) (I : XI s.heap.size D E h s H) (hL : RA E σ ar h) (hR : RC E (lPr ar) τ ad fa h) (hS : va_S (xA s.heap.size) s.heap H locs) (hW : LW σ) (hC : CW τ)  (hc1 : cells + 300 ≤ K) (hc2 : slots + 3000 ≤ Ks) (hK1 : K ≤ 600086) (hK2 : Ks ≤ 7301442) (hl : lv_has ls 39 [(0, .ref b), (1, .ref (ad 0 0)), (2, .ref (ar 0)), (3, .ref (ar 1)), (4, .ref (ar 2)), (5, .ref (ar 3)), (6, .ref (ar 4)), (7, .ref (ar 5)), (8, .ref (ar 6)), (9, .ref (ar 8)), (10, .ref (ar 7)), (11, .ref (ar 9))]) (kk : lKK p l e s m below meth c b D E ar Q K Ks 5 0 277 st) (hG : fSI xs L σ τ = some st) : W p l e room_1 s m #[Value.ref b] below meth c H locs cells slots Q (F0 m 65 ls []) := by
  obtain ⟨hx, hb, hml, hown, hts, hX, hbl, hCa, hlst, hLL⟩ := id F
  have hbA : ¬ xA s.heap.size b := Nat.not_le.mpr hbl
  unfold fSI at hG
  refine lv_lconst (v := (0 : Int64)) hx hb dL_law_65 rfl ?_
  refine lv_lstore (lv' := [(12, .long (0 : Int64)), (0, .ref b), (1, .ref (ad 0 0)), (2, .ref (ar 0)), (3, .ref (ar 1)), (4, .ref (ar 2)), (5, .ref (ar 3)), (6, .ref (ar 4)), (7, .ref (ar 5)), (8, .ref (ar 6)), (9, .ref (ar 8)), (10, .ref (ar 7)), (11, .ref (ar 9))]) hx hb dL_law_66 hl (by decide) rfl (fun ls hl => ?_)
  refine lv_iconst (v := (nI 0)) hx hb dL_law_68 (by decide) ?_
  refine lv_istore (lv' := [(14, .int (nI 0)), (12, .long (0 : Int64)), (0, .ref b), (1, .ref (ad 0 0)), (2, .ref (ar 0)), (3, .ref (ar 1)), (4, .ref (ar 2)), (5, .ref (ar 3)), (6, .ref (ar 4)), (7, .ref (ar 5)), (8, .ref (ar 6)), (9, .ref (ar 8)), (10, .ref (ar 7)), (11, .ref (ar 9))]) hx hb dL_law_69 hl (by decide) rfl (fun ls hl => ?_)
  refine lv_iconst (v := (nI 0)) hx hb dL_law_71 (by decide) ?_
  refine lv_istore (lv' := [(15, .int (nI 0)), (14, .int (nI 0)), (12, .long (0 : Int64)), (0, .ref b), (1, .ref (ad 0 0)), (2, .ref (ar 0)), (3, .ref (ar 1)), (4, .ref (ar 2)), (5, .ref (ar 3)), (6, .ref (ar 4)), (7, .ref (ar 5)), (8, .ref (ar 6)), (9, .ref (ar 8)), (10, .ref (ar 7)), (11, .ref (ar 9))]) hx hb dL_law_72 hl (by decide) rfl (fun ls hl => ?_)
  refine lv_iconst (v := (nI 0)) hx hb dL_law_74 (by decide) ?_
  refine lv_istore (lv' := [(16, .int (nI 0)), (15, .int (nI 0)), (14, .int (nI 0)), (12, .long (0 : Int64)), (0, .ref b), (1, .ref (ad 0 0)), (2, .ref (ar 0)), (3, .ref (ar 1)), (4, .ref (ar 2)), (5, .ref (ar 3)), (6, .ref (ar 4)), (7, .ref (ar 5)), (8, .ref (ar 6)), (9, .ref (ar 8)), (10, .ref (ar 7)), (11, .ref (ar 9))]) hx hb dL_law_75 hl (by decide) rfl (fun ls hl => ?_)
  refine lv_iconst (v := (nI 0)) hx hb dL_law_77 (by decide) ?_
  refine lv_istore (lv' := [(17, .int (nI 0)), (16, .int (nI 0)), (15, .int (nI 0)), (14, .int (nI 0)), (12, .long (0 : Int64)), (0, .ref b), (1, .ref (ad 0 0)), (2, .ref (ar 0)), (3, .ref (ar 1)), (4, .ref (ar 2)), (5, .ref (ar 3)), (6, .ref (ar 4)), (7, .ref (ar 5)), (8, .ref (ar 6)), (9, .ref (ar 8)), (10, .ref (ar 7)), (11, .ref (ar 9))]) hx hb dL_law_78 hl (by decide) rfl (fun ls hl => ?_)
  refine lv_iconst (v := (nI 5)) hx hb dL_law_80 (by decide) ?_
  refine lv_istore (lv' := [(18, .int (nI 5)), (17, .int (nI 0)), (16, .int (nI 0)), (15, .int (nI 0)), (14, .int (nI 0)), (12, .long (0 : Int64)), (0, .ref b), (1, .ref (ad 0 0)), (2, .ref (ar 0)), (3, .ref (ar 1)), (4, .ref (ar 2)), (5, .ref (ar 3)), (6, .ref (ar 4)), (7, .ref (ar 5)), (8, .ref (ar 6)), (9, .ref (ar 8)), (10, .ref (ar 7)), (11, .ref (ar 9))]) hx hb dL_law_81 hl (by decide) rfl (fun ls hl => ?_)
  refine lv_iconst (v := (nI 0)) hx hb dL_law_83 (by decide) ?_
  refine lv_istore (lv' := [(19, .int (nI 0)), (18, .int (nI 5)), (17, .int (nI 0)), (16, .int (nI 0)), (15, .int (nI 0)), (14, .int (nI 0)), (12, .long (0 : Int64)), (0, .ref b), (1, .ref (ad 0 0)), (2, .ref (ar 0)), (3, .ref (ar 1)), (4, .ref (ar 2)), (5, .ref (ar 3)), (6, .ref (ar 4)), (7, .ref (ar 5)), (8, .ref (ar 6)), (9, .ref (ar 8)), (10, .ref (ar 7)), (11, .ref (ar 9))]) hx hb dL_law_84 hl (by decide) rfl (fun ls hl => ?_)
  have L86 : ∀ (n86 : Nat) (k86 : Nat) (τ86 : CT), k86 + n86 = 3 → ∀ (ad : Nat → Nat → Nat) (fa : Nat → Nat → Option Nat) (H : Heap) (locs : List Loc) (hw : XW) (cells slots : Nat), XI s.heap.size D E hw s H → RA E σ ar hw → RC E (lPr ar) τ86 ad fa hw → va_S (xA s.heap.size) s.heap H locs → CW τ86 → cells + (10 * n86 + 200) ≤ K → slots + (100 * n86 + 2000) ≤ Ks → fSI_L86 xs L σ τ n86 k86 τ86 = some st → ∀ ls : Array Slot, lv_has ls 39 [(0, .ref b), (1, .ref (ad 0 0)), (2, .ref (ar 0)), (3, .ref (ar 1)), (4, .ref (ar 2)), (5, .ref (ar 3)), (6, .ref (ar 4)), (7, .ref (ar 5)), (8, .ref (ar 6)), (9, .ref (ar 8)), (10, .ref (ar 7)), (11, .ref (ar 9)), (12, .long (0 : Int64)), (14, .int (nI 0)), (15, .int (nI 0)), (16, .int (nI 0)), (17, .int (nI 0)), (18, .int (nI 5)), (19, .int (nI k86))] → W p l e room_1 s m #[Value.ref b] below meth c H locs cells slots Q (F0 m 86 ls []) := by
    intro n86
    induction n86 with
    | zero =>
      intro k86 τ86 hkn ad fa H locs hw cells slots I hL hR hS hC hc1 hc2 hG ls hl
      have hkN : k86 = 3 := by omega
      have hG : (fSI_L112 xs L σ τ 5 0 σ τ86) = some st := hG
      refine lv_iload hx hb dL_law_86 (lv_at hl 18 rfl) ?_
      refine lv_iconst (v := (nI 3)) hx hb dL_law_88 (by decide) ?_
      refine lv_icmp_ge (tgt := 109) hx hb dL_law_89 (by decide) (fun _ => ?_) (fun q => absurd (nI_le (Nat.le_of_eq hkN.symm) (by omega)) q)
      refine lv_iconst (v := (nI 0)) hx hb dL_law_109 (by decide) ?_
      refine lv_istore (lv' := [(19, .int (nI 0)), (0, .ref b), (1, .ref (ad 0 0)), (2, .ref (ar 0)), (3, .ref (ar 1)), (4, .ref (ar 2)), (5, .ref (ar 3)), (6, .ref (ar 4)), (7, .ref (ar 5)), (8, .ref (ar 6)), (9, .ref (ar 8)), (10, .ref (ar 7)), (11, .ref (ar 9)), (12, .long (0 : Int64)), (14, .int (nI 0)), (15, .int (nI 0)), (16, .int (nI 0)), (17, .int (nI 0)), (18, .int (nI 5))]) hx hb dL_law_110 hl (by decide) rfl (fun ls hl => ?_)
      have L112 : ∀ (n112 : Nat) (k112 : Nat) (σ112 : LT) (τ112 : CT), k112 + n112 = 5 → ∀ (ad : Nat → Nat → Nat) (fa : Nat → Nat → Option Nat) (H : Heap) (locs : List Loc) (hw : XW) (cells slots : Nat), XI s.heap.size D E hw s H → RA E σ112 ar hw → RC E (lPr ar) τ112 ad fa hw → va_S (xA s.heap.size) s.heap H locs → LW σ112 → CW τ112 → cells + (10 * n112 + 100) ≤ K → slots + (100 * n112 + 1000) ≤ Ks → fSI_L112 xs L σ τ n112 k112 σ112 τ112 = some st → ∀ ls : Array Slot, lv_has ls 39 [(0, .ref b), (1, .ref (ad 0 0)), (2, .ref (ar 0)), (3, .ref (ar 1)), (4, .ref (ar 2)), (5, .ref (ar 3)), (6, .ref (ar 4)), (7, .ref (ar 5)), (8, .ref (ar 6)), (9, .ref (ar 8)), (10, .ref (ar 7)), (11, .ref (ar 9)), (12, .long (0 : Int64)), (14, .int (nI 0)), (15, .int (nI 0)), (16, .int (nI 0)), (17, .int (nI 0)), (18, .int (nI 5)), (19, .int (nI k112))] → W p l e room_1 s m #[Value.ref b] below meth c H locs cells slots Q (F0 m 112 ls []) := by
        intro n112
        induction n112 with
        | zero =>
          intro k112 σ112 τ112 hkn ad fa H locs hw cells slots I hL hR hS hW hC hc1 hc2 hG ls hl
          have hkN : k112 = 5 := by omega
          have hG : (fSI_L186 xs L σ τ τ112 9 0 σ112) = some st := hG
          refine lv_iload hx hb dL_law_112 (lv_at hl 18 rfl) ?_
          refine lv_iconst (v := (nI 5)) hx hb dL_law_114 (by decide) ?_
          refine lv_icmp_ge (tgt := 183) hx hb dL_law_115 (by decide) (fun _ => ?_) (fun q => absurd (nI_le (Nat.le_of_eq hkN.symm) (by omega)) q)
          refine lv_iconst (v := (nI 0)) hx hb dL_law_183 (by decide) ?_
          refine lv_istore (lv' := [(19, .int (nI 0)), (0, .ref b), (1, .ref (ad 0 0)), (2, .ref (ar 0)), (3, .ref (ar 1)), (4, .ref (ar 2)), (5, .ref (ar 3)), (6, .ref (ar 4)), (7, .ref (ar 5)), (8, .ref (ar 6)), (9, .ref (ar 8)), (10, .ref (ar 7)), (11, .ref (ar 9)), (12, .long (0 : Int64)), (14, .int (nI 0)), (15, .int (nI 0)), (16, .int (nI 0)), (17, .int (nI 0)), (18, .int (nI 5))]) hx hb dL_law_184 hl (by decide) rfl (fun ls hl => ?_)
          have L186 : ∀ (n186 : Nat) (k186 : Nat) (σ186 : LT), k186 + n186 = 9 → ∀ (ad : Nat → Nat → Nat) (fa : Nat → Nat → Option Nat) (H : Heap) (locs : List Loc) (hw : XW) (cells slots : Nat), XI s.heap.size D E hw s H → RA E σ186 ar hw → RC E (lPr ar) τ112 ad fa hw → va_S (xA s.heap.size) s.heap H locs → LW σ186 → cells + (60) ≤ K → slots + (600) ≤ Ks → fSI_L186 xs L σ τ τ112 n186 k186 σ186 = some st → ∀ ls : Array Slot, lv_has ls 39 [(0, .ref b), (1, .ref (ad 0 0)), (2, .ref (ar 0)), (3, .ref (ar 1)), (4, .ref (ar 2)), (5, .ref (ar 3)), (6, .ref (ar 4)), (7, .ref (ar 5)), (8, .ref (ar 6)), (9, .ref (ar 8)), (10, .ref (ar 7)), (11, .ref (ar 9)), (12, .long (0 : Int64)), (14, .int (nI 0)), (15, .int (nI 0)), (16, .int (nI 0)), (17, .int (nI 0)), (18, .int (nI 5)), (19, .int (nI k186))] → W p l e room_1 s m #[Value.ref b] below meth c H locs cells slots Q (F0 m 186 ls []) := by
            intro n186
            induction n186 with
            | zero =>
              intro k186 σ186 hkn ad fa H locs hw cells slots I hL hR hS hW hc1 hc2 hG ls hl
              have hkN : k186 = 9 := by omega
              have hG : (fSI_L209 xs L σ τ τ112 24 0 σ186) = some st := hG
              refine lv_iload hx hb dL_law_186 (lv_at hl 18 rfl) ?_
              refine lv_bipush (v := (nI 9)) hx hb dL_law_188 (by decide) ?_
              refine lv_icmp_ge (tgt := 206) hx hb dL_law_190 (by decide) (fun _ => ?_) (fun q => absurd (nI_le (Nat.le_of_eq hkN.symm) (by omega)) q)
              refine lv_iconst (v := (nI 0)) hx hb dL_law_206 (by decide) ?_
              refine lv_istore (lv' := [(19, .int (nI 0)), (0, .ref b), (1, .ref (ad 0 0)), (2, .ref (ar 0)), (3, .ref (ar 1)), (4, .ref (ar 2)), (5, .ref (ar 3)), (6, .ref (ar 4)), (7, .ref (ar 5)), (8, .ref (ar 6)), (9, .ref (ar 8)), (10, .ref (ar 7)), (11, .ref (ar 9)), (12, .long (0 : Int64)), (14, .int (nI 0)), (15, .int (nI 0)), (16, .int (nI 0)), (17, .int (nI 0)), (18, .int (nI 5))]) hx hb dL_law_207 hl (by decide) rfl (fun ls hl => ?_)
              have L209 : ∀ (n209 : Nat) (k209 : Nat) (σ209 : LT), k209 + n209 = 24 → ∀ (ad : Nat → Nat → Nat) (fa : Nat → Nat → Option Nat) (H : Heap) (locs : List Loc) (hw : XW) (cells slots : Nat), XI s.heap.size D E hw s H → RA E σ209 ar hw → RC E (lPr ar) τ112 ad fa hw → va_S (xA s.heap.size) s.heap H locs → LW σ209 → cells + (60) ≤ K → slots + (600) ≤ Ks → fSI_L209 xs L σ τ τ112 n209 k209 σ209 = some st → ∀ ls : Array Slot, lv_has ls 39 [(0, .ref b), (1, .ref (ad 0 0)), (2, .ref (ar 0)), (3, .ref (ar 1)), (4, .ref (ar 2)), (5, .ref (ar 3)), (6, .ref (ar 4)), (7, .ref (ar 5)), (8, .ref (ar 6)), (9, .ref (ar 8)), (10, .ref (ar 7)), (11, .ref (ar 9)), (12, .long (0 : Int64)), (14, .int (nI 0)), (15, .int (nI 0)), (16, .int (nI 0)), (17, .int (nI 0)), (18, .int (nI 5)), (19, .int (nI k209))] → W p l e room_1 s m #[Value.ref b] below meth c H locs cells slots Q (F0 m 209 ls []) := by
                intro n209
                induction n209 with
                | zero =>
                  intro k209 σ209 hkn ad fa H locs hw cells slots I hL hR hS hW hc1 hc2 hG ls hl
                  have hkN : k209 = 24 := by omega
                  have hG : (fSI_L231 xs L σ τ τ112 9 0 σ209) = some st := hG
                  refine lv_iload hx hb dL_law_209 (lv_at hl 18 rfl) ?_
                  refine lv_bipush (v := (nI 24)) hx hb dL_law_211 (by decide) ?_
                  refine lv_icmp_ge (tgt := 228) hx hb dL_law_213 (by decide) (fun _ => ?_) (fun q => absurd (nI_le (Nat.le_of_eq hkN.symm) (by omega)) q)
                  refine lv_iconst (v := (nI 0)) hx hb dL_law_228 (by decide) ?_
                  refine lv_istore (lv' := [(19, .int (nI 0)), (0, .ref b), (1, .ref (ad 0 0)), (2, .ref (ar 0)), (3, .ref (ar 1)), (4, .ref (ar 2)), (5, .ref (ar 3)), (6, .ref (ar 4)), (7, .ref (ar 5)), (8, .ref (ar 6)), (9, .ref (ar 8)), (10, .ref (ar 7)), (11, .ref (ar 9)), (12, .long (0 : Int64)), (14, .int (nI 0)), (15, .int (nI 0)), (16, .int (nI 0)), (17, .int (nI 0)), (18, .int (nI 5))]) hx hb dL_law_229 hl (by decide) rfl (fun ls hl => ?_)
                  have L231 : ∀ (n231 : Nat) (k231 : Nat) (σ231 : LT), k231 + n231 = 9 → ∀ (ad : Nat → Nat → Nat) (fa : Nat → Nat → Option Nat) (H : Heap) (locs : List Loc) (hw : XW) (cells slots : Nat), XI s.heap.size D E hw s H → RA E σ231 ar hw → RC E (lPr ar) τ112 ad fa hw → va_S (xA s.heap.size) s.heap H locs → LW σ231 → cells + (60) ≤ K → slots + (600) ≤ Ks → fSI_L231 xs L σ τ τ112 n231 k231 σ231 = some st → ∀ ls : Array Slot, lv_has ls 39 [(0, .ref b), (1, .ref (ad 0 0)), (2, .ref (ar 0)), (3, .ref (ar 1)), (4, .ref (ar 2)), (5, .ref (ar 3)), (6, .ref (ar 4)), (7, .ref (ar 5)), (8, .ref (ar 6)), (9, .ref (ar 8)), (10, .ref (ar 7)), (11, .ref (ar 9)), (12, .long (0 : Int64)), (14, .int (nI 0)), (15, .int (nI 0)), (16, .int (nI 0)), (17, .int (nI 0)), (18, .int (nI 5)), (19, .int (nI k231))] → W p l e room_1 s m #[Value.ref b] below meth c H locs cells slots Q (F0 m 231 ls []) := by
                    intro n231
                    induction n231 with
                    | zero =>
                      intro k231 σ231 hkn ad fa H locs hw cells slots I hL hR hS hW hc1 hc2 hG ls hl
                      have hkN : k231 = 9 := by omega
                      have hG : (fSI_L253 xs L σ τ τ112 3 0 σ231) = some st := hG
                      refine lv_iload hx hb dL_law_231 (lv_at hl 18 rfl) ?_
                      refine lv_bipush (v := (nI 9)) hx hb dL_law_233 (by decide) ?_
                      refine lv_icmp_ge (tgt := 250) hx hb dL_law_235 (by decide) (fun _ => ?_) (fun q => absurd (nI_le (Nat.le_of_eq hkN.symm) (by omega)) q)
                      refine lv_iconst (v := (nI 0)) hx hb dL_law_250 (by decide) ?_
                      refine lv_istore (lv' := [(19, .int (nI 0)), (0, .ref b), (1, .ref (ad 0 0)), (2, .ref (ar 0)), (3, .ref (ar 1)), (4, .ref (ar 2)), (5, .ref (ar 3)), (6, .ref (ar 4)), (7, .ref (ar 5)), (8, .ref (ar 6)), (9, .ref (ar 8)), (10, .ref (ar 7)), (11, .ref (ar 9)), (12, .long (0 : Int64)), (14, .int (nI 0)), (15, .int (nI 0)), (16, .int (nI 0)), (17, .int (nI 0)), (18, .int (nI 5))]) hx hb dL_law_251 hl (by decide) rfl (fun ls hl => ?_)
                      have L253 : ∀ (n253 : Nat) (k253 : Nat) (σ253 : LT), k253 + n253 = 3 → ∀ (ad : Nat → Nat → Nat) (fa : Nat → Nat → Option Nat) (H : Heap) (locs : List Loc) (hw : XW) (cells slots : Nat), XI s.heap.size D E hw s H → RA E σ253 ar hw → RC E (lPr ar) τ112 ad fa hw → va_S (xA s.heap.size) s.heap H locs → LW σ253 → cells + (60) ≤ K → slots + (600) ≤ Ks → fSI_L253 xs L σ τ τ112 n253 k253 σ253 = some st → ∀ ls : Array Slot, lv_has ls 39 [(0, .ref b), (1, .ref (ad 0 0)), (2, .ref (ar 0)), (3, .ref (ar 1)), (4, .ref (ar 2)), (5, .ref (ar 3)), (6, .ref (ar 4)), (7, .ref (ar 5)), (8, .ref (ar 6)), (9, .ref (ar 8)), (10, .ref (ar 7)), (11, .ref (ar 9)), (12, .long (0 : Int64)), (14, .int (nI 0)), (15, .int (nI 0)), (16, .int (nI 0)), (17, .int (nI 0)), (18, .int (nI 5)), (19, .int (nI k253))] → W p l e room_1 s m #[Value.ref b] below meth c H locs cells slots Q (F0 m 253 ls []) := by
                        intro n253
                        induction n253 with
                        | zero =>
                          intro k253 σ253 hkn ad fa H locs hw cells slots I hL hR hS hW hc1 hc2 hG ls hl
                          have hkN : k253 = 3 := by omega
                          have hG : (some (σ253, τ112, (0 : Int64), 0, 0, 0, 0)) = some st := hG
                          refine lv_iload hx hb dL_law_253 (lv_at hl 18 rfl) ?_
                          refine lv_iconst (v := (nI 3)) hx hb dL_law_255 (by decide) ?_
                          refine lv_icmp_ge (tgt := 274) hx hb dL_law_256 (by decide) (fun _ => ?_) (fun q => absurd (nI_le (Nat.le_of_eq hkN.symm) (by omega)) q)
                          refine lv_iconst (v := (nI 0)) hx hb dL_law_274 (by decide) ?_
                          refine lv_istore (lv' := [(19, .int (nI 0)), (0, .ref b), (1, .ref (ad 0 0)), (2, .ref (ar 0)), (3, .ref (ar 1)), (4, .ref (ar 2)), (5, .ref (ar 3)), (6, .ref (ar 4)), (7, .ref (ar 5)), (8, .ref (ar 6)), (9, .ref (ar 8)), (10, .ref (ar 7)), (11, .ref (ar 9)), (12, .long (0 : Int64)), (14, .int (nI 0)), (15, .int (nI 0)), (16, .int (nI 0)), (17, .int (nI 0)), (18, .int (nI 5))]) hx hb dL_law_275 hl (by decide) rfl (fun ls hl => ?_)
                          have hst := Option.some.inj (show some (σ253, τ112, (0 : Int64), 0, 0, 0, 0) = some st from hG)
                          subst hst
                          exact W.widen (by omega) (by omega) (kk _ _ _ _ _ _ I hL hR hS hW hC (lv_sub hl [1, 2, 3, 4, 5, 6, 7, 8, 9, 10, 11, 12, 13, 14, 15, 16, 17, 18, 0] rfl))
                        | succ n253 ih253 =>
                          intro k253 σ253 hkn ad fa H locs hw cells slots I hL hR hS hW hc1 hc2 hG ls hl
                          have hk : k253 < 3 := by omega
                          have hG : lseq ((lSI σ253 7 (9 + k253) (-1))) (fun q => fSI_L253 xs L σ τ τ112 n253 (k253 + 1) q) = some st := hG
                          refine lv_iload hx hb dL_law_253 (lv_at hl 18 rfl) ?_
                          refine lv_iconst (v := (nI 3)) hx hb dL_law_255 (by decide) ?_
                          refine lv_icmp_ge (tgt := 274) hx hb dL_law_256 (by decide) (fun q => absurd q (nI_ge hk (by omega))) (fun _ => ?_)
                          refine lv_aload hx hb dL_law_259 (lv_at hl 10 rfl) ?_
                          refine lv_bipush (v := (nI 9)) hx hb dL_law_261 (by decide) ?_
                          refine lv_iload hx hb dL_law_263 (lv_at hl 18 rfl) ?_
                          refine lv_iadd hx hb dL_law_265 ?_
                          refine xtop (y := .int (nI (9 + k253))) (congrArg Value.int (nI_add _ _)) ?_
                          refine lv_iconst (v := (-1)) hx hb dL_law_266 (by decide) ?_
                          refine xiS (x := (-1)) (i := (9 + k253)) (n := 16) 7 hx hb I hS hL hR (by decide) (by omega) (by decide) dL_law_267 (fun H locs hw I hL hR hS => ?_)
                          have hW : LW (lSI σ253 7 (9 + k253) (-1)) := hW.sI 7 (9 + k253) (-1) (by omega)
                          refine lv_iinc (v := (nI (k253 + 1))) (lv' := [(19, .int (nI (k253 + 1))), (0, .ref b), (1, .ref (ad 0 0)), (2, .ref (ar 0)), (3, .ref (ar 1)), (4, .ref (ar 2)), (5, .ref (ar 3)), (6, .ref (ar 4)), (7, .ref (ar 5)), (8, .ref (ar 6)), (9, .ref (ar 8)), (10, .ref (ar 7)), (11, .ref (ar 9)), (12, .long (0 : Int64)), (14, .int (nI 0)), (15, .int (nI 0)), (16, .int (nI 0)), (17, .int (nI 0)), (18, .int (nI 5))]) hx hb dL_law_268 hl (k := 18) rfl (nI_succ k253).symm (by decide) rfl (fun ls hl => ?_)
                          refine lv_goto (tgt := 253) hx hb dL_law_271 (by decide) ?_
                          exact ih253 (k253 + 1) (lSI σ253 7 (9 + k253) (-1)) (by first | omega | (simp only [lSI_K]; omega)) ad fa H locs hw cells slots I hL hR hS hW (by omega) (by omega) hG ls (lv_sub hl [1, 2, 3, 4, 5, 6, 7, 8, 9, 10, 11, 12, 13, 14, 15, 16, 17, 18, 0] rfl)
                      exact L253 3 0 σ231 (by omega) ad fa H locs hw cells slots I hL hR hS hW (by omega) (by omega) hG ls (lv_sub hl [1, 2, 3, 4, 5, 6, 7, 8, 9, 10, 11, 12, 13, 14, 15, 16, 17, 18, 0] rfl)
                    | succ n231 ih231 =>
                      intro k231 σ231 hkn ad fa H locs hw cells slots I hL hR hS hW hc1 hc2 hG ls hl
                      have hk : k231 < 9 := by omega
                      have hG : lseq ((lSI σ231 5 k231 (-1))) (fun q => fSI_L231 xs L σ τ τ112 n231 (k231 + 1) q) = some st := hG
                      refine lv_iload hx hb dL_law_231 (lv_at hl 18 rfl) ?_
                      refine lv_bipush (v := (nI 9)) hx hb dL_law_233 (by decide) ?_
                      refine lv_icmp_ge (tgt := 250) hx hb dL_law_235 (by decide) (fun q => absurd q (nI_ge hk (by omega))) (fun _ => ?_)
                      refine lv_aload hx hb dL_law_238 (lv_at hl 7 rfl) ?_
                      refine lv_iload hx hb dL_law_240 (lv_at hl 18 rfl) ?_
                      refine lv_iconst (v := (-1)) hx hb dL_law_242 (by decide) ?_
                      refine xiS (x := (-1)) (i := k231) (n := 9) 5 hx hb I hS hL hR (by decide) (by omega) (by decide) dL_law_243 (fun H locs hw I hL hR hS => ?_)
                      have hW : LW (lSI σ231 5 k231 (-1)) := hW.sI 5 k231 (-1) (by omega)
                      refine lv_iinc (v := (nI (k231 + 1))) (lv' := [(19, .int (nI (k231 + 1))), (0, .ref b), (1, .ref (ad 0 0)), (2, .ref (ar 0)), (3, .ref (ar 1)), (4, .ref (ar 2)), (5, .ref (ar 3)), (6, .ref (ar 4)), (7, .ref (ar 5)), (8, .ref (ar 6)), (9, .ref (ar 8)), (10, .ref (ar 7)), (11, .ref (ar 9)), (12, .long (0 : Int64)), (14, .int (nI 0)), (15, .int (nI 0)), (16, .int (nI 0)), (17, .int (nI 0)), (18, .int (nI 5))]) hx hb dL_law_244 hl (k := 18) rfl (nI_succ k231).symm (by decide) rfl (fun ls hl => ?_)
                      refine lv_goto (tgt := 231) hx hb dL_law_247 (by decide) ?_
                      exact ih231 (k231 + 1) (lSI σ231 5 k231 (-1)) (by first | omega | (simp only [lSI_K]; omega)) ad fa H locs hw cells slots I hL hR hS hW (by omega) (by omega) hG ls (lv_sub hl [1, 2, 3, 4, 5, 6, 7, 8, 9, 10, 11, 12, 13, 14, 15, 16, 17, 18, 0] rfl)
                  exact L231 9 0 σ209 (by omega) ad fa H locs hw cells slots I hL hR hS hW (by omega) (by omega) hG ls (lv_sub hl [1, 2, 3, 4, 5, 6, 7, 8, 9, 10, 11, 12, 13, 14, 15, 16, 17, 18, 0] rfl)
                | succ n209 ih209 =>
                  intro k209 σ209 hkn ad fa H locs hw cells slots I hL hR hS hW hc1 hc2 hG ls hl
                  have hk : k209 < 24 := by omega
                  have hG : lseq ((lSI σ209 4 k209 (-1))) (fun q => fSI_L209 xs L σ τ τ112 n209 (k209 + 1) q) = some st := hG
                  refine lv_iload hx hb dL_law_209 (lv_at hl 18 rfl) ?_
                  refine lv_bipush (v := (nI 24)) hx hb dL_law_211 (by decide) ?_
                  refine lv_icmp_ge (tgt := 228) hx hb dL_law_213 (by decide) (fun q => absurd q (nI_ge hk (by omega))) (fun _ => ?_)
                  refine lv_aload hx hb dL_law_216 (lv_at hl 6 rfl) ?_
                  refine lv_iload hx hb dL_law_218 (lv_at hl 18 rfl) ?_
                  refine lv_iconst (v := (-1)) hx hb dL_law_220 (by decide) ?_
                  refine xiS (x := (-1)) (i := k209) (n := 24) 4 hx hb I hS hL hR (by decide) (by omega) (by decide) dL_law_221 (fun H locs hw I hL hR hS => ?_)
                  have hW : LW (lSI σ209 4 k209 (-1)) := hW.sI 4 k209 (-1) (by omega)
                  refine lv_iinc (v := (nI (k209 + 1))) (lv' := [(19, .int (nI (k209 + 1))), (0, .ref b), (1, .ref (ad 0 0)), (2, .ref (ar 0)), (3, .ref (ar 1)), (4, .ref (ar 2)), (5, .ref (ar 3)), (6, .ref (ar 4)), (7, .ref (ar 5)), (8, .ref (ar 6)), (9, .ref (ar 8)), (10, .ref (ar 7)), (11, .ref (ar 9)), (12, .long (0 : Int64)), (14, .int (nI 0)), (15, .int (nI 0)), (16, .int (nI 0)), (17, .int (nI 0)), (18, .int (nI 5))]) hx hb dL_law_222 hl (k := 18) rfl (nI_succ k209).symm (by decide) rfl (fun ls hl => ?_)
                  refine lv_goto (tgt := 209) hx hb dL_law_225 (by decide) ?_
                  exact ih209 (k209 + 1) (lSI σ209 4 k209 (-1)) (by first | omega | (simp only [lSI_K]; omega)) ad fa H locs hw cells slots I hL hR hS hW (by omega) (by omega) hG ls (lv_sub hl [1, 2, 3, 4, 5, 6, 7, 8, 9, 10, 11, 12, 13, 14, 15, 16, 17, 18, 0] rfl)
              exact L209 24 0 σ186 (by omega) ad fa H locs hw cells slots I hL hR hS hW (by omega) (by omega) hG ls (lv_sub hl [1, 2, 3, 4, 5, 6, 7, 8, 9, 10, 11, 12, 13, 14, 15, 16, 17, 18, 0] rfl)
            | succ n186 ih186 =>
              intro k186 σ186 hkn ad fa H locs hw cells slots I hL hR hS hW hc1 hc2 hG ls hl
              have hk : k186 < 9 := by omega
              have hG : lseq ((lSK σ186 2 k186 100)) (fun q => fSI_L186 xs L σ τ τ112 n186 (k186 + 1) q) = some st := hG
              refine lv_iload hx hb dL_law_186 (lv_at hl 18 rfl) ?_
              refine lv_bipush (v := (nI 9)) hx hb dL_law_188 (by decide) ?_
              refine lv_icmp_ge (tgt := 206) hx hb dL_law_190 (by decide) (fun q => absurd q (nI_ge hk (by omega))) (fun _ => ?_)
              refine lv_aload hx hb dL_law_193 (lv_at hl 4 rfl) ?_
              refine lv_iload hx hb dL_law_195 (lv_at hl 18 rfl) ?_
              refine lv_bipush (v := (nI 100)) hx hb dL_law_197 (by decide) ?_
              refine xkS (x := 100) (i := k186) (n := 9) 2 hx hb I hS hL hR (by decide) (by omega) (by decide) dL_law_199 (fun H locs hw I hL hR hS => ?_)
              have hW : LW (lSK σ186 2 k186 100) := hW.sK 2 k186 100 (by omega) (by intro z q; first | exact absurd z (by decide) | omega | (obtain ⟨i, hi⟩ := q; omega)) (by intro z q; first | exact absurd z (by decide) | omega | (obtain ⟨i, hi⟩ := q; omega)) (by intro z q; first | exact absurd z (by decide) | omega | (obtain ⟨i, hi⟩ := q; omega)) (by intro z q; first | exact absurd z (by decide) | omega | (obtain ⟨i, hi⟩ := q; omega)) (by intro z q; first | exact absurd z (by decide) | omega | (obtain ⟨i, hi⟩ := q; omega))
              refine lv_iinc (v := (nI (k186 + 1))) (lv' := [(19, .int (nI (k186 + 1))), (0, .ref b), (1, .ref (ad 0 0)), (2, .ref (ar 0)), (3, .ref (ar 1)), (4, .ref (ar 2)), (5, .ref (ar 3)), (6, .ref (ar 4)), (7, .ref (ar 5)), (8, .ref (ar 6)), (9, .ref (ar 8)), (10, .ref (ar 7)), (11, .ref (ar 9)), (12, .long (0 : Int64)), (14, .int (nI 0)), (15, .int (nI 0)), (16, .int (nI 0)), (17, .int (nI 0)), (18, .int (nI 5))]) hx hb dL_law_200 hl (k := 18) rfl (nI_succ k186).symm (by decide) rfl (fun ls hl => ?_)
              refine lv_goto (tgt := 186) hx hb dL_law_203 (by decide) ?_
              exact ih186 (k186 + 1) (lSK σ186 2 k186 100) (by first | omega | (simp only [lSI_K]; omega)) ad fa H locs hw cells slots I hL hR hS hW (by omega) (by omega) hG ls (lv_sub hl [1, 2, 3, 4, 5, 6, 7, 8, 9, 10, 11, 12, 13, 14, 15, 16, 17, 18, 0] rfl)
          exact L186 9 0 σ112 (by omega) ad fa H locs hw cells slots I hL hR hS hW (by omega) (by omega) hG ls (lv_sub hl [1, 2, 3, 4, 5, 6, 7, 8, 9, 10, 11, 12, 13, 14, 15, 16, 17, 18, 0] rfl)
        | succ n112 ih112 =>
          intro k112 σ112 τ112 hkn ad fa H locs hw cells slots I hL hR hS hW hC hc1 hc2 hG ls hl
          have hk : k112 < 5 := by omega
          have hG : lbind ((lcall (Sum.inr none) (fX7_ship τ112 (nI (lK (lSK (lSK σ112 1 k112 (lowN (fL_cell xs L k112) 3)) 1 (8 + k112) (1 + (lowN ((fL_cell xs L k112) >>> ((nI 3) &&& 31)) 999))) 1 k112)) (nI (lK (lSK (lSK σ112 1 k112 (lowN (fL_cell xs L k112) 3)) 1 (8 + k112) (1 + (lowN ((fL_cell xs L k112) >>> ((nI 3) &&& 31)) 999))) 1 (8 + k112)))) (fun x167 => (if x167.1 = (nI k112) then (Sum.inl ((lSK (lSK σ112 1 k112 (lowN (fL_cell xs L k112) 3)) 1 (8 + k112) (1 + (lowN ((fL_cell xs L k112) >>> ((nI 3) &&& 31)) 999))), x167.2)) else (Sum.inr none))))) (fun q => fSI_L112 xs L σ τ n112 (k112 + 1) q.1 q.2) = some st := hG
          refine lv_iload hx hb dL_law_112 (lv_at hl 18 rfl) ?_
          refine lv_iconst (v := (nI 5)) hx hb dL_law_114 (by decide) ?_
          refine lv_icmp_ge (tgt := 183) hx hb dL_law_115 (by decide) (fun q => absurd q (nI_ge hk (by omega))) (fun _ => ?_)
          refine lv_aload_n hx hb dL_law_118 rfl (lv_at hl 3 rfl) ?_
          refine lv_iload hx hb dL_law_119 (lv_at hl 18 rfl) ?_
          refine lv_aload_n hx hb dL_law_121 rfl (lv_at hl 0 rfl) ?_
          refine lv_iload hx hb dL_law_122 (lv_at hl 18 rfl) ?_
          refine xcsS (As := [.ref b, .int (nI k112)]) (rest := [.int (nI k112), .ref (ar 1)]) (v := some (.int (fL_cell xs L k112))) ⟨hx, hb, hml, hown, hts⟩ (mL_cell l s.heap.size D E hw b L xs k112 (by first | assumption | omega) (by first | assumption | omega)) (va_cwS 2 hts gL_law_L_cell rfl rfl rfl (by decide +kernel) ⟨Nat.le_of_ble_eq_true rfl, Nat.le_of_ble_eq_true rfl⟩) hX hbl hbA hS rfl hl.1 rfl (Nat.le_of_ble_eq_true rfl) dL_law_124 ⟨show cells + 0 ≤ 600086 by omega, show slots + 0 ≤ 7301442 by omega⟩ ?_
          refine W.eq (g2 := F0 m 127 ls [.int (fL_cell xs L k112), .int (nI k112), .ref (ar 1)]) rfl ?_
          refine lv_iconst (v := (nI 3)) hx hb dL_law_127 (by decide) ?_
          refine xcsR (As := [.int (fL_cell xs L k112), .int (nI 3)]) (rest := [.int (nI k112), .ref (ar 1)]) (v := some (.int (nI (lowN (fL_cell xs L k112) 3)))) ⟨hx, hb, hml, hown, hts⟩ (mL_low l s.heap.size D E hw (fL_cell xs L k112) 3 (by first | assumption | omega) (by first | assumption | omega)) (va_cwS 2 hts gL_law_L_low rfl rfl rfl (by decide +kernel) ⟨Nat.le_of_ble_eq_true rfl, Nat.le_of_ble_eq_true rfl⟩) I rfl hl.1 rfl (Nat.le_of_ble_eq_true rfl) dL_law_128 ⟨show cells + 0 ≤ 600086 by omega, show slots + 0 ≤ 7301442 by omega⟩ ?_
          refine W.eq (g2 := F0 m 131 ls [.int (nI (lowN (fL_cell xs L k112) 3)), .int (nI k112), .ref (ar 1)]) rfl ?_
          have l128 : lowN (fL_cell xs L k112) 3 < 3 := lowN_lt _ (by omega)
          refine xkS (x := (lowN (fL_cell xs L k112) 3)) (i := k112) (n := 16) 1 hx hb I hS hL hR (by decide) (by omega) (by decide) dL_law_131 (fun H locs hw I hL hR hS => ?_)
          have hW : LW (lSK σ112 1 k112 (lowN (fL_cell xs L k112) 3)) := hW.sK 1 k112 (lowN (fL_cell xs L k112) 3) (by omega) (by intro z q; first | exact absurd z (by decide) | omega | (obtain ⟨i, hi⟩ := q; omega)) (by intro z q; first | exact absurd z (by decide) | omega | (obtain ⟨i, hi⟩ := q; omega)) (by intro z q; first | exact absurd z (by decide) | omega | (obtain ⟨i, hi⟩ := q; omega)) (by intro z q; first | exact absurd z (by decide) | omega | (obtain ⟨i, hi⟩ := q; omega)) (by intro z q; first | exact absurd z (by decide) | omega | (obtain ⟨i, hi⟩ := q; omega))
          refine lv_aload_n hx hb dL_law_132 rfl (lv_at hl 3 rfl) ?_
          refine lv_bipush (v := (nI 8)) hx hb dL_law_133 (by decide) ?_
          refine lv_iload hx hb dL_law_135 (lv_at hl 18 rfl) ?_
          refine lv_iadd hx hb dL_law_137 ?_
          refine xtop (y := .int (nI (8 + k112))) (congrArg Value.int (nI_add _ _)) ?_
          refine lv_iconst (v := (nI 1)) hx hb dL_law_138 (by decide) ?_
          refine lv_aload_n hx hb dL_law_139 rfl (lv_at hl 0 rfl) ?_
          refine lv_iload hx hb dL_law_140 (lv_at hl 18 rfl) ?_
          refine xcsS (As := [.ref b, .int (nI k112)]) (rest := [.int (nI 1), .int (nI (8 + k112)), .ref (ar 1)]) (v := some (.int (fL_cell xs L k112))) ⟨hx, hb, hml, hown, hts⟩ (mL_cell l s.heap.size D E hw b L xs k112 (by first | assumption | omega) (by first | assumption | omega)) (va_cwS 2 hts gL_law_L_cell rfl rfl rfl (by decide +kernel) ⟨Nat.le_of_ble_eq_true rfl, Nat.le_of_ble_eq_true rfl⟩) hX hbl hbA hS rfl hl.1 rfl (Nat.le_of_ble_eq_true rfl) dL_law_142 ⟨show cells + 0 ≤ 600086 by omega, show slots + 0 ≤ 7301442 by omega⟩ ?_
          refine W.eq (g2 := F0 m 145 ls [.int (fL_cell xs L k112), .int (nI 1), .int (nI (8 + k112)), .ref (ar 1)]) rfl ?_
          refine lv_iconst (v := (nI 3)) hx hb dL_law_145 (by decide) ?_
          refine lv_ishr hx hb dL_law_146 ?_
          refine lv_sipush (v := (nI 999)) hx hb dL_law_147 (by decide) ?_
          refine xcsR (As := [.int ((fL_cell xs L k112) >>> ((nI 3) &&& 31)), .int (nI 999)]) (rest := [.int (nI 1), .int (nI (8 + k112)), .ref (ar 1)]) (v := some (.int (nI (lowN ((fL_cell xs L k112) >>> ((nI 3) &&& 31)) 999)))) ⟨hx, hb, hml, hown, hts⟩ (mL_low l s.heap.size D E hw ((fL_cell xs L k112) >>> ((nI 3) &&& 31)) 999 (by first | assumption | omega) (by first | assumption | omega)) (va_cwS 2 hts gL_law_L_low rfl rfl rfl (by decide +kernel) ⟨Nat.le_of_ble_eq_true rfl, Nat.le_of_ble_eq_true rfl⟩) I rfl hl.1 rfl (Nat.le_of_ble_eq_true rfl) dL_law_150 ⟨show cells + 0 ≤ 600086 by omega, show slots + 0 ≤ 7301442 by omega⟩ ?_
          refine W.eq (g2 := F0 m 153 ls [.int (nI (lowN ((fL_cell xs L k112) >>> ((nI 3) &&& 31)) 999)), .int (nI 1), .int (nI (8 + k112)), .ref (ar 1)]) rfl ?_
          have l150 : lowN ((fL_cell xs L k112) >>> ((nI 3) &&& 31)) 999 < 999 := lowN_lt _ (by omega)
          refine lv_iadd hx hb dL_law_153 ?_
          refine xtop (y := .int (nI (1 + (lowN ((fL_cell xs L k112) >>> ((nI 3) &&& 31)) 999)))) (congrArg Value.int (nI_add _ _)) ?_
          refine xkS (x := (1 + (lowN ((fL_cell xs L k112) >>> ((nI 3) &&& 31)) 999))) (i := (8 + k112)) (n := 16) 1 hx hb I hS hL hR (by decide) (by omega) (by decide) dL_law_154 (fun H locs hw I hL hR hS => ?_)
          have hW : LW (lSK (lSK σ112 1 k112 (lowN (fL_cell xs L k112) 3)) 1 (8 + k112) (1 + (lowN ((fL_cell xs L k112) >>> ((nI 3) &&& 31)) 999))) := hW.sK 1 (8 + k112) (1 + (lowN ((fL_cell xs L k112) >>> ((nI 3) &&& 31)) 999)) (by omega) (by intro z q; first | exact absurd z (by decide) | omega | (obtain ⟨i, hi⟩ := q; omega)) (by intro z q; first | exact absurd z (by decide) | omega | (obtain ⟨i, hi⟩ := q; omega)) (by intro z q; first | exact absurd z (by decide) | omega | (obtain ⟨i, hi⟩ := q; omega)) (by intro z q; first | exact absurd z (by decide) | omega | (obtain ⟨i, hi⟩ := q; omega)) (by intro z q; first | exact absurd z (by decide) | omega | (obtain ⟨i, hi⟩ := q; omega))
          refine lv_aload_n hx hb dL_law_155 rfl (lv_at hl 1 rfl) ?_
          refine lv_aload_n hx hb dL_law_156 rfl (lv_at hl 3 rfl) ?_
          refine lv_iload hx hb dL_law_157 (lv_at hl 18 rfl) ?_
          refine xiald (i := k112) (n := 16) hx hb I (hL.1 1 16 (by decide)) (by omega) (by decide) dL_law_159 ?_
          have g159 : lK (lSK (lSK σ112 1 k112 (lowN (fL_cell xs L k112) 3)) 1 (8 + k112) (1 + (lowN ((fL_cell xs L k112) >>> ((nI 3) &&& 31)) 999))) 1 k112 < 1073741824 := hW.2.2.2.2.2.1 1 k112
          have b159 : lK (lSK (lSK σ112 1 k112 (lowN (fL_cell xs L k112) 3)) 1 (8 + k112) (1 + (lowN ((fL_cell xs L k112) >>> ((nI 3) &&& 31)) 999))) 1 k112 < 3 := hW.2.1 k112 (by omega)
          refine lv_aload_n hx hb dL_law_160 rfl (lv_at hl 3 rfl) ?_
          refine lv_bipush (v := (nI 8)) hx hb dL_law_161 (by decide) ?_
          refine lv_iload hx hb dL_law_163 (lv_at hl 18 rfl) ?_
          refine lv_iadd hx hb dL_law_165 ?_
          refine xtop (y := .int (nI (8 + k112))) (congrArg Value.int (nI_add _ _)) ?_
          refine xiald (i := (8 + k112)) (n := 16) hx hb I (hL.1 1 16 (by decide)) (by omega) (by decide) dL_law_166 ?_
          have g166 : lK (lSK (lSK σ112 1 k112 (lowN (fL_cell xs L k112) 3)) 1 (8 + k112) (1 + (lowN ((fL_cell xs L k112) >>> ((nI 3) &&& 31)) 999))) 1 (8 + k112) < 1073741824 := hW.2.2.2.2.2.1 1 (8 + k112)
          have b166 : lK (lSK (lSK σ112 1 k112 (lowN (fL_cell xs L k112) 3)) 1 (8 + k112) (1 + (lowN ((fL_cell xs L k112) >>> ((nI 3) &&& 31)) 999))) 1 (8 + k112) ≤ 999 := hW.2.2.2.2.2.2 k112
          cases e167 : (fX7_ship τ112 (nI (lK (lSK (lSK σ112 1 k112 (lowN (fL_cell xs L k112) 3)) 1 (8 + k112) (1 + (lowN ((fL_cell xs L k112) >>> ((nI 3) &&& 31)) 999))) 1 k112)) (nI (lK (lSK (lSK σ112 1 k112 (lowN (fL_cell xs L k112) 3)) 1 (8 + k112) (1 + (lowN ((fL_cell xs L k112) >>> ((nI 3) &&& 31)) 999))) 1 (8 + k112)))) with
          | inl En => rw [e167] at hG; exact absurd (show (none : Option ST) = some st from hG) (fun z => nomatch z)
          | inr x167 =>
            rw [e167] at hG
            have hG : lbind ((if x167.1 = (nI k112) then (Sum.inl ((lSK (lSK σ112 1 k112 (lowN (fL_cell xs L k112) 3)) 1 (8 + k112) (1 + (lowN ((fL_cell xs L k112) >>> ((nI 3) &&& 31)) 999))), x167.2)) else (Sum.inr none))) (fun q => fSI_L112 xs L σ τ n112 (k112 + 1) q.1 q.2) = some st := hG
            refine xcvN (As := [.int (nI (lK (lSK (lSK σ112 1 k112 (lowN (fL_cell xs L k112) 3)) 1 (8 + k112) (1 + (lowN ((fL_cell xs L k112) >>> ((nI 3) &&& 31)) 999))) 1 k112)), .int (nI (lK (lSK (lSK σ112 1 k112 (lowN (fL_cell xs L k112) 3)) 1 (8 + k112) (1 + (lowN ((fL_cell xs L k112) >>> ((nI 3) &&& 31)) 999))) 1 (8 + k112)))]) (rest := []) ⟨hx, hb, hml, hown, hts⟩ (mX7_ship l s.heap.size D E hw hlst (lPr ar) τ112 ad fa hR hC (nI (lK (lSK (lSK σ112 1 k112 (lowN (fL_cell xs L k112) 3)) 1 (8 + k112) (1 + (lowN ((fL_cell xs L k112) >>> ((nI 3) &&& 31)) 999))) 1 k112)) (nI (lK (lSK (lSK σ112 1 k112 (lowN (fL_cell xs L k112) 3)) 1 (8 + k112) (1 + (lowN ((fL_cell xs L k112) >>> ((nI 3) &&& 31)) 999))) 1 (8 + k112)))) (cwV 2 hts gL_law_X7_ship rfl rfl rfl (by decide +kernel) ⟨Nat.le_of_ble_eq_true rfl, Nat.le_of_ble_eq_true rfl⟩) I hS hR.f0 rfl rfl hl.1 rfl (Nat.le_of_ble_eq_true rfl) dL_law_167 ⟨show cells + 3 ≤ 600086 by omega, show slots + 18 ≤ 7301442 by omega⟩ (fun En q => by rw [e167] at q; cases q) (fun v9 hw H locs q9 I hS => ?_)
            obtain ⟨y9, e9, ad_167, fa_167, q1, hR, hF, hC, h00_167⟩ := q9
            have e9 := Sum.inr.inj (e167.symm.trans e9)
            subst e9
            subst q1
            have hL := hL.keep hF
            try rw [← h00_167] at hl
            refine W.eq (g2 := F0 m 170 ls [.int x167.1]) rfl ?_
            refine lv_iload hx hb dL_law_170 (lv_at hl 18 rfl) ?_
            refine lv_icmp_eq (tgt := 177) hx hb dL_law_172 (by decide) (fun c_172 => ?_) (fun c_172 => ?_)
            · skip
              rw [if_pos c_172] at hG
              refine lv_iinc (v := (nI (k112 + 1))) (lv' := [(19, .int (nI (k112 + 1))), (0, .ref b), (1, .ref (ad_167 0 0)), (2, .ref (ar 0)), (3, .ref (ar 1)), (4, .ref (ar 2)), (5, .ref (ar 3)), (6, .ref (ar 4)), (7, .ref (ar 5)), (8, .ref (ar 6)), (9, .ref (ar 8)), (10, .ref (ar 7)), (11, .ref (ar 9)), (12, .long (0 : Int64)), (14, .int (nI 0)), (15, .int (nI 0)), (16, .int (nI 0)), (17, .int (nI 0)), (18, .int (nI 5))]) hx hb dL_law_177 hl (k := 18) rfl (nI_succ k112).symm (by decide) rfl (fun ls hl => ?_)
              refine lv_goto (tgt := 112) hx hb dL_law_180 (by decide) ?_
              exact ih112 (k112 + 1) (lSK (lSK σ112 1 k112 (lowN (fL_cell xs L k112) 3)) 1 (8 + k112) (1 + (lowN ((fL_cell xs L k112) >>> ((nI 3) &&& 31)) 999))) x167.2 (by first | omega | (simp only [lSI_K]; omega)) ad_167 fa_167 H locs hw (cells + 3) (slots + 18) I hL hR hS hW hC (by omega) (by omega) hG ls (lv_sub hl [1, 2, 3, 4, 5, 6, 7, 8, 9, 10, 11, 12, 13, 14, 15, 16, 17, 18, 0] rfl)
            · skip
              rw [if_neg c_172] at hG
              refine lv_iconst (v := (nI 0)) hx hb dL_law_175 (by decide) ?_
              exact absurd (show (none : Option ST) = some st from hG) (fun z => nomatch z)
      exact L112 5 0 σ τ86 (by omega) ad fa H locs hw cells slots I hL hR hS hW hC (by omega) (by omega) hG ls (lv_sub hl [1, 2, 3, 4, 5, 6, 7, 8, 9, 10, 11, 12, 13, 14, 15, 16, 17, 18, 0] rfl)
    | succ n86 ih86 =>
      intro k86 τ86 hkn ad fa H locs hw cells slots I hL hR hS hC hc1 hc2 hG ls hl
      have hk : k86 < 3 := by omega
      have hG : lbind ((lcall (Sum.inr none) (fX7_member τ86) (fun x93 => (if x93.1 = (nI k86) then (Sum.inl x93.2) else (Sum.inr none))))) (fun q => fSI_L86 xs L σ τ n86 (k86 + 1) q) = some st := hG
      refine lv_iload hx hb dL_law_86 (lv_at hl 18 rfl) ?_
      refine lv_iconst (v := (nI 3)) hx hb dL_law_88 (by decide) ?_
      refine lv_icmp_ge (tgt := 109) hx hb dL_law_89 (by decide) (fun q => absurd q (nI_ge hk (by omega))) (fun _ => ?_)
      refine lv_aload_n hx hb dL_law_92 rfl (lv_at hl 1 rfl) ?_
      cases e93 : (fX7_member τ86) with
      | inl En => rw [e93] at hG; exact absurd (show (none : Option ST) = some st from hG) (fun z => nomatch z)
      | inr x93 =>
        rw [e93] at hG
        have hG : lbind ((if x93.1 = (nI k86) then (Sum.inl x93.2) else (Sum.inr none))) (fun q => fSI_L86 xs L σ τ n86 (k86 + 1) q) = some st := hG
        refine xcvN (As := []) (rest := []) ⟨hx, hb, hml, hown, hts⟩ (mX7_member l s.heap.size D E hw hlst (lPr ar) τ86 ad fa hR hC) (cwV 0 hts gL_law_X7_member rfl rfl rfl (by decide +kernel) ⟨Nat.le_of_ble_eq_true rfl, Nat.le_of_ble_eq_true rfl⟩) I hS hR.f0 rfl rfl hl.1 rfl (Nat.le_of_ble_eq_true rfl) dL_law_93 ⟨show cells + 4 ≤ 600086 by omega, show slots + 65 ≤ 7301442 by omega⟩ (fun En q => by rw [e93] at q; cases q) (fun v9 hw H locs q9 I hS => ?_)
        obtain ⟨y9, e9, ad_93, fa_93, q1, hR, hF, hC, h00_93⟩ := q9
        have e9 := Sum.inr.inj (e93.symm.trans e9)
        subst e9
        subst q1
        have hL := hL.keep hF
        try rw [← h00_93] at hl
        refine W.eq (g2 := F0 m 96 ls [.int x93.1]) rfl ?_
        refine lv_iload hx hb dL_law_96 (lv_at hl 18 rfl) ?_
        refine lv_icmp_eq (tgt := 103) hx hb dL_law_98 (by decide) (fun c_98 => ?_) (fun c_98 => ?_)
        · skip
          rw [if_pos c_98] at hG
          refine lv_iinc (v := (nI (k86 + 1))) (lv' := [(19, .int (nI (k86 + 1))), (0, .ref b), (1, .ref (ad_93 0 0)), (2, .ref (ar 0)), (3, .ref (ar 1)), (4, .ref (ar 2)), (5, .ref (ar 3)), (6, .ref (ar 4)), (7, .ref (ar 5)), (8, .ref (ar 6)), (9, .ref (ar 8)), (10, .ref (ar 7)), (11, .ref (ar 9)), (12, .long (0 : Int64)), (14, .int (nI 0)), (15, .int (nI 0)), (16, .int (nI 0)), (17, .int (nI 0)), (18, .int (nI 5))]) hx hb dL_law_103 hl (k := 18) rfl (nI_succ k86).symm (by decide) rfl (fun ls hl => ?_)
          refine lv_goto (tgt := 86) hx hb dL_law_106 (by decide) ?_
          exact ih86 (k86 + 1) x93.2 (by first | omega | (simp only [lSI_K]; omega)) ad_93 fa_93 H locs hw (cells + 4) (slots + 65) I hL hR hS hC (by omega) (by omega) hG ls (lv_sub hl [1, 2, 3, 4, 5, 6, 7, 8, 9, 10, 11, 12, 13, 14, 15, 16, 17, 18, 0] rfl)
        · skip
          rw [if_neg c_98] at hG
          refine lv_iconst (v := (nI 0)) hx hb dL_law_101 (by decide) ?_
          exact absurd (show (none : Option ST) = some st from hG) (fun z => nomatch z)
  exact L86 3 0 τ (by omega) ad fa H locs h cells slots I hL hR hS hC (by omega) (by omega) hG ls (lv_sub hl [7, 8, 9, 10, 11, 12, 13, 14, 15, 16, 17, 18, 6, 5, 4, 3, 2, 1, 0] rfl)
