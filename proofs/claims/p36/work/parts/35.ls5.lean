def fSD_B1532 (xs : Nat → Int32) (L : Nat) (n18 : Nat) (σ : LT) (τ : CT) (q12 : Int64) (n14 : Nat) (n15 : Nat) (n16 : Nat) (n17 : Nat) : Option ST := (if lowN (fL_cell xs L n18) 14 = 9 then (fS1539 σ τ q12 n14 n15 n16 n17 (lowN ((fL_cell xs L n18) >>> ((nI 4) &&& 31)) 3) (fL_cell xs L (n18 + 1))) else (if lowN (fL_cell xs L n18) 14 = 10 then (fS2026 σ τ q12 n14 n15 n16 n17) else (fS2518 σ τ q12 n14 n15 n16 n17 (fL_cell xs L (n18 + 1)))))
def fSD_B1309 (xs : Nat → Int32) (L : Nat) (n18 : Nat) (σ : LT) (τ : CT) (q12 : Int64) (n14 : Nat) (n15 : Nat) (n16 : Nat) (n17 : Nat) : Option ST := (if lowN (fL_cell xs L n18) 14 = 8 then (if lowN ((fL_cell xs L n18) >>> ((nI 9) &&& 31)) 3 < lF σ then (fSD_B1532 xs L n18 σ τ q12 n14 n15 n16 n17) else (fS1326 σ τ q12 n14 n15 n16 n17 (lowN ((fL_cell xs L n18) >>> ((nI 4) &&& 31)) 3) (fL_cell xs L (n18 + 1)) (lowN ((fL_cell xs L n18) >>> ((nI 9) &&& 31)) 3))) else (fSD_B1532 xs L n18 σ τ q12 n14 n15 n16 n17))
def fSD_B1199 (xs : Nat → Int32) (L : Nat) (n18 : Nat) (σ : LT) (τ : CT) (q12 : Int64) (n14 : Nat) (n15 : Nat) (n16 : Nat) (n17 : Nat) : Option ST := (if lowN (fL_cell xs L n18) 14 = 7 then (if lowN ((fL_cell xs L n18) >>> ((nI 9) &&& 31)) 3 < lF σ then (fSD_B1309 xs L n18 σ τ q12 n14 n15 n16 n17) else (fS1216 σ τ q12 n14 n15 n16 n17 (fL_cell xs L (n18 + 1)) (lowN ((fL_cell xs L n18) >>> ((nI 9) &&& 31)) 3))) else (fSD_B1309 xs L n18 σ τ q12 n14 n15 n16 n17))
def fSD_B1108 (xs : Nat → Int32) (L : Nat) (n18 : Nat) (σ : LT) (τ : CT) (q12 : Int64) (n14 : Nat) (n15 : Nat) (n16 : Nat) (n17 : Nat) : Option ST := (if lowN (fL_cell xs L n18) 14 = 6 then (if lowN ((fL_cell xs L n18) >>> ((nI 9) &&& 31)) 3 < lF σ then (fSD_B1199 xs L n18 σ τ q12 n14 n15 n16 n17) else (fS1125 σ τ q12 n14 n15 n16 n17 (fL_cell xs L (n18 + 1)) (lowN ((fL_cell xs L n18) >>> ((nI 9) &&& 31)) 3))) else (fSD_B1199 xs L n18 σ τ q12 n14 n15 n16 n17))
def fSD_B902 (xs : Nat → Int32) (L : Nat) (n18 : Nat) (σ : LT) (τ : CT) (q12 : Int64) (n14 : Nat) (n15 : Nat) (n16 : Nat) (n17 : Nat) : Option ST := (if lowN (fL_cell xs L n18) 14 = 5 then (if n15 ≤ 0 then (fSD_B1108 xs L n18 σ τ q12 n14 n15 n16 n17) else (fS913 σ τ q12 n14 n15 n16 n17 (fL_cell xs L (n18 + 1)))) else (fSD_B1108 xs L n18 σ τ q12 n14 n15 n16 n17))
def fSD_B510 (xs : Nat → Int32) (L : Nat) (n18 : Nat) (σ : LT) (τ : CT) (q12 : Int64) (n14 : Nat) (n15 : Nat) (n16 : Nat) (n17 : Nat) : Option ST := (if lowN (fL_cell xs L n18) 14 = 2 then (fS516 σ τ q12 n14 n15 n16 n17 (lowN ((fL_cell xs L n18) >>> ((nI 6) &&& 31)) 5)) else (if 5 ≤ lowN (fL_cell xs L n18) 14 then (fSD_B902 xs L n18 σ τ q12 n14 n15 n16 n17) else (if 10 ≤ n15 then (fSD_B902 xs L n18 σ τ q12 n14 n15 n16 n17) else (fS629 σ τ q12 n14 n15 n16 n17 (fL_cell xs L n18) (fL_cell xs L (n18 + 1)) (lowN ((fL_cell xs L n18) >>> ((nI 6) &&& 31)) 5)))))
def fSD (xs : Nat → Int32) (L : Nat) (n18 : Nat) (σ : LT) (τ : CT) (q12 : Int64) (n14 : Nat) (n15 : Nat) (n16 : Nat) (n17 : Nat) : Option ST := (if 2 ≤ lowN (fL_cell xs L n18) 14 then (fSD_B510 xs L n18 σ τ q12 n14 n15 n16 n17) else (if 12 ≤ n14 then (fSD_B510 xs L n18 σ τ q12 n14 n15 n16 n17) else (fS359 σ τ q12 n14 n15 n16 n17 (lowN ((fL_cell xs L n18) >>> ((nI 6) &&& 31)) 5))))
set_option maxHeartbeats 4000000 in
set_option maxRecDepth 100000 in
theorem sSD {p : Program} {l : Launch} {e : Env} {s : State} {m : MethodId} {below : List Frame} {meth : Method} {c : Code} {b L : Nat} {xs : Nat → Int32} {Q : State → Prop} {D : va_G} {E : Nat → ClassId} {σ : LT} {τ : CT} {ad : Nat → Nat → Nat} {fa : Nat → Nat → Option Nat} {ar : Nat → Nat} {h : XW} {H : Heap} {locs : List Loc} {cells slots K Ks : Nat}  {q12 : Int64} {n14 n15 n16 n17 n18 n19 : Nat} {st : ST} {ls : Array Slot} (F : LF p l s m c b L xs) (I : XI s.heap.size D E h s H) (hL : RA E σ ar h) (hR : RC E (lPr ar) τ ad fa h) (hS : va_S (xA s.heap.size) s.heap H locs) (hW : LW σ) (hC : CW τ)  (h14 : n14 ≤ 12) (h15 : n15 ≤ 10) (h16 : n16 ≤ 10) (h17 : n17 < 300) (h18 : n18 < 500) (h19 : n19 < 44) (hc1 : cells + 250 ≤ K) (hc2 : slots + 2500 ≤ Ks) (hK1 : K ≤ 600086) (hK2 : Ks ≤ 7301442) (hl : lv_has ls 39 [(0, .ref b), (1, .ref (ad 0 0)), (2, .ref (ar 0)), (3, .ref (ar 1)), (4, .ref (ar 2)), (5, .ref (ar 3)), (6, .ref (ar 4)), (7, .ref (ar 5)), (8, .ref (ar 6)), (9, .ref (ar 8)), (10, .ref (ar 7)), (11, .ref (ar 9)), (12, .long q12), (14, .int (nI n14)), (15, .int (nI n15)), (16, .int (nI n16)), (17, .int (nI n17)), (18, .int (nI n18)), (19, .int (nI n19))]) (kk : lKK p l e s m below meth c b D E ar Q K Ks (n18 + 2) n19 2560 st) (hG : fSD xs L n18 σ τ q12 n14 n15 n16 n17 = some st) : W p l e room_1 s m #[Value.ref b] below meth c H locs cells slots Q (F0 m 284 ls []) := by
  obtain ⟨hx, hb, hml, hown, hts, hX, hbl, hCa, hlst, hLL⟩ := id F
  have hbA : ¬ xA s.heap.size b := Nat.not_le.mpr hbl
  unfold fSD at hG
  refine lv_aload_n hx hb dL_law_284 rfl (lv_at hl 0 rfl) ?_
  refine lv_iload hx hb dL_law_285 (lv_at hl 17 rfl) ?_
  refine xcsS (As := [.ref b, .int (nI n18)]) (rest := []) (v := some (.int (fL_cell xs L n18))) ⟨hx, hb, hml, hown, hts⟩ (mL_cell l s.heap.size D E h b L xs n18 (by first | assumption | omega) (by first | assumption | omega)) (va_cwS 2 hts gL_law_L_cell rfl rfl rfl (by decide +kernel) ⟨Nat.le_of_ble_eq_true rfl, Nat.le_of_ble_eq_true rfl⟩) hX hbl hbA hS rfl hl.1 rfl (Nat.le_of_ble_eq_true rfl) dL_law_287 ⟨show cells + 0 ≤ 600086 by omega, show slots + 0 ≤ 7301442 by omega⟩ ?_
  refine W.eq (g2 := F0 m 290 ls [.int (fL_cell xs L n18)]) rfl ?_
  refine lv_istore (lv' := [(20, .int (fL_cell xs L n18)), (0, .ref b), (1, .ref (ad 0 0)), (2, .ref (ar 0)), (3, .ref (ar 1)), (4, .ref (ar 2)), (5, .ref (ar 3)), (6, .ref (ar 4)), (7, .ref (ar 5)), (8, .ref (ar 6)), (9, .ref (ar 8)), (10, .ref (ar 7)), (11, .ref (ar 9)), (12, .long q12), (14, .int (nI n14)), (15, .int (nI n15)), (16, .int (nI n16)), (17, .int (nI n17)), (18, .int (nI n18)), (19, .int (nI n19))]) hx hb dL_law_290 hl (by decide) rfl (fun ls hl => ?_)
  refine lv_aload_n hx hb dL_law_292 rfl (lv_at hl 1 rfl) ?_
  refine lv_iload hx hb dL_law_293 (lv_at hl 18 rfl) ?_
  refine lv_iconst (v := (nI 1)) hx hb dL_law_295 (by decide) ?_
  refine lv_iadd hx hb dL_law_296 ?_
  refine xtop (y := .int (nI (n18 + 1))) (congrArg Value.int (nI_add _ _)) ?_
  refine xcsS (As := [.ref b, .int (nI (n18 + 1))]) (rest := []) (v := some (.int (fL_cell xs L (n18 + 1)))) ⟨hx, hb, hml, hown, hts⟩ (mL_cell l s.heap.size D E h b L xs (n18 + 1) (by first | assumption | omega) (by first | assumption | omega)) (va_cwS 2 hts gL_law_L_cell rfl rfl rfl (by decide +kernel) ⟨Nat.le_of_ble_eq_true rfl, Nat.le_of_ble_eq_true rfl⟩) hX hbl hbA hS rfl hl.1 rfl (Nat.le_of_ble_eq_true rfl) dL_law_297 ⟨show cells + 0 ≤ 600086 by omega, show slots + 0 ≤ 7301442 by omega⟩ ?_
  refine W.eq (g2 := F0 m 300 ls [.int (fL_cell xs L (n18 + 1))]) rfl ?_
  refine lv_istore (lv' := [(21, .int (fL_cell xs L (n18 + 1))), (20, .int (fL_cell xs L n18)), (0, .ref b), (1, .ref (ad 0 0)), (2, .ref (ar 0)), (3, .ref (ar 1)), (4, .ref (ar 2)), (5, .ref (ar 3)), (6, .ref (ar 4)), (7, .ref (ar 5)), (8, .ref (ar 6)), (9, .ref (ar 8)), (10, .ref (ar 7)), (11, .ref (ar 9)), (12, .long q12), (14, .int (nI n14)), (15, .int (nI n15)), (16, .int (nI n16)), (17, .int (nI n17)), (18, .int (nI n18)), (19, .int (nI n19))]) hx hb dL_law_300 hl (by decide) rfl (fun ls hl => ?_)
  refine lv_iinc (v := (nI (n18 + 2))) (lv' := [(18, .int (nI (n18 + 2))), (21, .int (fL_cell xs L (n18 + 1))), (20, .int (fL_cell xs L n18)), (0, .ref b), (1, .ref (ad 0 0)), (2, .ref (ar 0)), (3, .ref (ar 1)), (4, .ref (ar 2)), (5, .ref (ar 3)), (6, .ref (ar 4)), (7, .ref (ar 5)), (8, .ref (ar 6)), (9, .ref (ar 8)), (10, .ref (ar 7)), (11, .ref (ar 9)), (12, .long q12), (14, .int (nI n14)), (15, .int (nI n15)), (16, .int (nI n16)), (17, .int (nI n17)), (19, .int (nI n19))]) hx hb dL_law_302 hl (k := 19) rfl (nI_add _ 2) (by decide) rfl (fun ls hl => ?_)
  refine lv_iload hx hb dL_law_305 (lv_at hl 2 rfl) ?_
  refine lv_bipush (v := (nI 14)) hx hb dL_law_307 (by decide) ?_
  refine xcsR (As := [.int (fL_cell xs L n18), .int (nI 14)]) (rest := []) (v := some (.int (nI (lowN (fL_cell xs L n18) 14)))) ⟨hx, hb, hml, hown, hts⟩ (mL_low l s.heap.size D E h (fL_cell xs L n18) 14 (by first | assumption | omega) (by first | assumption | omega)) (va_cwS 2 hts gL_law_L_low rfl rfl rfl (by decide +kernel) ⟨Nat.le_of_ble_eq_true rfl, Nat.le_of_ble_eq_true rfl⟩) I rfl hl.1 rfl (Nat.le_of_ble_eq_true rfl) dL_law_309 ⟨show cells + 0 ≤ 600086 by omega, show slots + 0 ≤ 7301442 by omega⟩ ?_
  refine W.eq (g2 := F0 m 312 ls [.int (nI (lowN (fL_cell xs L n18) 14))]) rfl ?_
  have l309 : lowN (fL_cell xs L n18) 14 < 14 := lowN_lt _ (by omega)
  refine lv_istore (lv' := [(22, .int (nI (lowN (fL_cell xs L n18) 14))), (18, .int (nI (n18 + 2))), (21, .int (fL_cell xs L (n18 + 1))), (20, .int (fL_cell xs L n18)), (0, .ref b), (1, .ref (ad 0 0)), (2, .ref (ar 0)), (3, .ref (ar 1)), (4, .ref (ar 2)), (5, .ref (ar 3)), (6, .ref (ar 4)), (7, .ref (ar 5)), (8, .ref (ar 6)), (9, .ref (ar 8)), (10, .ref (ar 7)), (11, .ref (ar 9)), (12, .long q12), (14, .int (nI n14)), (15, .int (nI n15)), (16, .int (nI n16)), (17, .int (nI n17)), (19, .int (nI n19))]) hx hb dL_law_312 hl (by decide) rfl (fun ls hl => ?_)
  refine lv_iload hx hb dL_law_314 (lv_at hl 3 rfl) ?_
  refine lv_iconst (v := (nI 4)) hx hb dL_law_316 (by decide) ?_
  refine lv_ishr hx hb dL_law_317 ?_
  refine lv_iconst (v := (nI 3)) hx hb dL_law_318 (by decide) ?_
  refine xcsR (As := [.int ((fL_cell xs L n18) >>> ((nI 4) &&& 31)), .int (nI 3)]) (rest := []) (v := some (.int (nI (lowN ((fL_cell xs L n18) >>> ((nI 4) &&& 31)) 3)))) ⟨hx, hb, hml, hown, hts⟩ (mL_low l s.heap.size D E h ((fL_cell xs L n18) >>> ((nI 4) &&& 31)) 3 (by first | assumption | omega) (by first | assumption | omega)) (va_cwS 2 hts gL_law_L_low rfl rfl rfl (by decide +kernel) ⟨Nat.le_of_ble_eq_true rfl, Nat.le_of_ble_eq_true rfl⟩) I rfl hl.1 rfl (Nat.le_of_ble_eq_true rfl) dL_law_319 ⟨show cells + 0 ≤ 600086 by omega, show slots + 0 ≤ 7301442 by omega⟩ ?_
  refine W.eq (g2 := F0 m 322 ls [.int (nI (lowN ((fL_cell xs L n18) >>> ((nI 4) &&& 31)) 3))]) rfl ?_
  have l319 : lowN ((fL_cell xs L n18) >>> ((nI 4) &&& 31)) 3 < 3 := lowN_lt _ (by omega)
  refine lv_istore (lv' := [(23, .int (nI (lowN ((fL_cell xs L n18) >>> ((nI 4) &&& 31)) 3))), (22, .int (nI (lowN (fL_cell xs L n18) 14))), (18, .int (nI (n18 + 2))), (21, .int (fL_cell xs L (n18 + 1))), (20, .int (fL_cell xs L n18)), (0, .ref b), (1, .ref (ad 0 0)), (2, .ref (ar 0)), (3, .ref (ar 1)), (4, .ref (ar 2)), (5, .ref (ar 3)), (6, .ref (ar 4)), (7, .ref (ar 5)), (8, .ref (ar 6)), (9, .ref (ar 8)), (10, .ref (ar 7)), (11, .ref (ar 9)), (12, .long q12), (14, .int (nI n14)), (15, .int (nI n15)), (16, .int (nI n16)), (17, .int (nI n17)), (19, .int (nI n19))]) hx hb dL_law_322 hl (by decide) rfl (fun ls hl => ?_)
  refine lv_iload hx hb dL_law_324 (lv_at hl 4 rfl) ?_
  refine lv_bipush (v := (nI 6)) hx hb dL_law_326 (by decide) ?_
  refine lv_ishr hx hb dL_law_328 ?_
  refine lv_iconst (v := (nI 5)) hx hb dL_law_329 (by decide) ?_
  refine xcsR (As := [.int ((fL_cell xs L n18) >>> ((nI 6) &&& 31)), .int (nI 5)]) (rest := []) (v := some (.int (nI (lowN ((fL_cell xs L n18) >>> ((nI 6) &&& 31)) 5)))) ⟨hx, hb, hml, hown, hts⟩ (mL_low l s.heap.size D E h ((fL_cell xs L n18) >>> ((nI 6) &&& 31)) 5 (by first | assumption | omega) (by first | assumption | omega)) (va_cwS 2 hts gL_law_L_low rfl rfl rfl (by decide +kernel) ⟨Nat.le_of_ble_eq_true rfl, Nat.le_of_ble_eq_true rfl⟩) I rfl hl.1 rfl (Nat.le_of_ble_eq_true rfl) dL_law_330 ⟨show cells + 0 ≤ 600086 by omega, show slots + 0 ≤ 7301442 by omega⟩ ?_
  refine W.eq (g2 := F0 m 333 ls [.int (nI (lowN ((fL_cell xs L n18) >>> ((nI 6) &&& 31)) 5))]) rfl ?_
  have l330 : lowN ((fL_cell xs L n18) >>> ((nI 6) &&& 31)) 5 < 5 := lowN_lt _ (by omega)
  refine lv_istore (lv' := [(24, .int (nI (lowN ((fL_cell xs L n18) >>> ((nI 6) &&& 31)) 5))), (23, .int (nI (lowN ((fL_cell xs L n18) >>> ((nI 4) &&& 31)) 3))), (22, .int (nI (lowN (fL_cell xs L n18) 14))), (18, .int (nI (n18 + 2))), (21, .int (fL_cell xs L (n18 + 1))), (20, .int (fL_cell xs L n18)), (0, .ref b), (1, .ref (ad 0 0)), (2, .ref (ar 0)), (3, .ref (ar 1)), (4, .ref (ar 2)), (5, .ref (ar 3)), (6, .ref (ar 4)), (7, .ref (ar 5)), (8, .ref (ar 6)), (9, .ref (ar 8)), (10, .ref (ar 7)), (11, .ref (ar 9)), (12, .long q12), (14, .int (nI n14)), (15, .int (nI n15)), (16, .int (nI n16)), (17, .int (nI n17)), (19, .int (nI n19))]) hx hb dL_law_333 hl (by decide) rfl (fun ls hl => ?_)
  refine lv_iload hx hb dL_law_335 (lv_at hl 5 rfl) ?_
  refine lv_bipush (v := (nI 9)) hx hb dL_law_337 (by decide) ?_
  refine lv_ishr hx hb dL_law_339 ?_
  refine lv_iconst (v := (nI 3)) hx hb dL_law_340 (by decide) ?_
  refine xcsR (As := [.int ((fL_cell xs L n18) >>> ((nI 9) &&& 31)), .int (nI 3)]) (rest := []) (v := some (.int (nI (lowN ((fL_cell xs L n18) >>> ((nI 9) &&& 31)) 3)))) ⟨hx, hb, hml, hown, hts⟩ (mL_low l s.heap.size D E h ((fL_cell xs L n18) >>> ((nI 9) &&& 31)) 3 (by first | assumption | omega) (by first | assumption | omega)) (va_cwS 2 hts gL_law_L_low rfl rfl rfl (by decide +kernel) ⟨Nat.le_of_ble_eq_true rfl, Nat.le_of_ble_eq_true rfl⟩) I rfl hl.1 rfl (Nat.le_of_ble_eq_true rfl) dL_law_341 ⟨show cells + 0 ≤ 600086 by omega, show slots + 0 ≤ 7301442 by omega⟩ ?_
  refine W.eq (g2 := F0 m 344 ls [.int (nI (lowN ((fL_cell xs L n18) >>> ((nI 9) &&& 31)) 3))]) rfl ?_
  have l341 : lowN ((fL_cell xs L n18) >>> ((nI 9) &&& 31)) 3 < 3 := lowN_lt _ (by omega)
  refine lv_istore (lv' := [(25, .int (nI (lowN ((fL_cell xs L n18) >>> ((nI 9) &&& 31)) 3))), (24, .int (nI (lowN ((fL_cell xs L n18) >>> ((nI 6) &&& 31)) 5))), (23, .int (nI (lowN ((fL_cell xs L n18) >>> ((nI 4) &&& 31)) 3))), (22, .int (nI (lowN (fL_cell xs L n18) 14))), (18, .int (nI (n18 + 2))), (21, .int (fL_cell xs L (n18 + 1))), (20, .int (fL_cell xs L n18)), (0, .ref b), (1, .ref (ad 0 0)), (2, .ref (ar 0)), (3, .ref (ar 1)), (4, .ref (ar 2)), (5, .ref (ar 3)), (6, .ref (ar 4)), (7, .ref (ar 5)), (8, .ref (ar 6)), (9, .ref (ar 8)), (10, .ref (ar 7)), (11, .ref (ar 9)), (12, .long q12), (14, .int (nI n14)), (15, .int (nI n15)), (16, .int (nI n16)), (17, .int (nI n17)), (19, .int (nI n19))]) hx hb dL_law_344 hl (by decide) rfl (fun ls hl => ?_)
  refine lv_iload hx hb dL_law_346 (lv_at hl 3 rfl) ?_
  refine lv_iconst (v := (nI 2)) hx hb dL_law_348 (by decide) ?_
  have B510 : fSD_B510 xs L n18 σ τ q12 n14 n15 n16 n17 = some st → ∀ ls : Array Slot, lv_has ls 39 [(0, .ref b), (1, .ref (ad 0 0)), (2, .ref (ar 0)), (3, .ref (ar 1)), (4, .ref (ar 2)), (5, .ref (ar 3)), (6, .ref (ar 4)), (7, .ref (ar 5)), (8, .ref (ar 6)), (9, .ref (ar 8)), (10, .ref (ar 7)), (11, .ref (ar 9)), (12, .long q12), (14, .int (nI n14)), (15, .int (nI n15)), (16, .int (nI n16)), (17, .int (nI n17)), (18, .int (nI (n18 + 2))), (19, .int (nI n19)), (20, .int (fL_cell xs L n18)), (21, .int (fL_cell xs L (n18 + 1))), (22, .int (nI (lowN (fL_cell xs L n18) 14))), (23, .int (nI (lowN ((fL_cell xs L n18) >>> ((nI 4) &&& 31)) 3))), (24, .int (nI (lowN ((fL_cell xs L n18) >>> ((nI 6) &&& 31)) 5))), (25, .int (nI (lowN ((fL_cell xs L n18) >>> ((nI 9) &&& 31)) 3)))] → W p l e room_1 s m #[Value.ref b] below meth c H locs cells slots Q (F0 m 510 ls []) := by
    intro hG ls hl
    unfold fSD_B510 at hG
    refine lv_iload hx hb dL_law_510 (lv_at hl 21 rfl) ?_
    refine lv_iconst (v := (nI 2)) hx hb dL_law_512 (by decide) ?_
    refine lv_icmp_ne (tgt := 616) hx hb dL_law_513 (by decide) (fun c_513 => ?_) (fun c_513 => ?_)
    · skip
      have c_513 : ¬ lowN (fL_cell xs L n18) 14 = 2 := fun q => c_513 ((nI_eq (a := (lowN (fL_cell xs L n18) 14)) (b := 2) (by omega) (by omega)).mpr q)
      rw [if_neg c_513] at hG
      refine lv_iload hx hb dL_law_616 (lv_at hl 21 rfl) ?_
      refine lv_iconst (v := (nI 5)) hx hb dL_law_618 (by decide) ?_
      have B902 : fSD_B902 xs L n18 σ τ q12 n14 n15 n16 n17 = some st → ∀ ls : Array Slot, lv_has ls 39 [(0, .ref b), (1, .ref (ad 0 0)), (2, .ref (ar 0)), (3, .ref (ar 1)), (4, .ref (ar 2)), (5, .ref (ar 3)), (6, .ref (ar 4)), (7, .ref (ar 5)), (8, .ref (ar 6)), (9, .ref (ar 8)), (10, .ref (ar 7)), (11, .ref (ar 9)), (12, .long q12), (14, .int (nI n14)), (15, .int (nI n15)), (16, .int (nI n16)), (17, .int (nI n17)), (18, .int (nI (n18 + 2))), (19, .int (nI n19)), (21, .int (fL_cell xs L (n18 + 1))), (22, .int (nI (lowN (fL_cell xs L n18) 14))), (23, .int (nI (lowN ((fL_cell xs L n18) >>> ((nI 4) &&& 31)) 3))), (25, .int (nI (lowN ((fL_cell xs L n18) >>> ((nI 9) &&& 31)) 3)))] → W p l e room_1 s m #[Value.ref b] below meth c H locs cells slots Q (F0 m 902 ls []) := by
        intro hG ls hl
        unfold fSD_B902 at hG
        refine lv_iload hx hb dL_law_902 (lv_at hl 20 rfl) ?_
        refine lv_iconst (v := (nI 5)) hx hb dL_law_904 (by decide) ?_
        have B1108 : fSD_B1108 xs L n18 σ τ q12 n14 n15 n16 n17 = some st → ∀ ls : Array Slot, lv_has ls 39 [(0, .ref b), (1, .ref (ad 0 0)), (2, .ref (ar 0)), (3, .ref (ar 1)), (4, .ref (ar 2)), (5, .ref (ar 3)), (6, .ref (ar 4)), (7, .ref (ar 5)), (8, .ref (ar 6)), (9, .ref (ar 8)), (10, .ref (ar 7)), (11, .ref (ar 9)), (12, .long q12), (14, .int (nI n14)), (15, .int (nI n15)), (16, .int (nI n16)), (17, .int (nI n17)), (18, .int (nI (n18 + 2))), (19, .int (nI n19)), (21, .int (fL_cell xs L (n18 + 1))), (22, .int (nI (lowN (fL_cell xs L n18) 14))), (23, .int (nI (lowN ((fL_cell xs L n18) >>> ((nI 4) &&& 31)) 3))), (25, .int (nI (lowN ((fL_cell xs L n18) >>> ((nI 9) &&& 31)) 3)))] → W p l e room_1 s m #[Value.ref b] below meth c H locs cells slots Q (F0 m 1108 ls []) := by
          intro hG ls hl
          unfold fSD_B1108 at hG
          refine lv_iload hx hb dL_law_1108 (lv_at hl 20 rfl) ?_
          refine lv_bipush (v := (nI 6)) hx hb dL_law_1110 (by decide) ?_
          have B1199 : fSD_B1199 xs L n18 σ τ q12 n14 n15 n16 n17 = some st → ∀ ls : Array Slot, lv_has ls 39 [(0, .ref b), (1, .ref (ad 0 0)), (2, .ref (ar 0)), (3, .ref (ar 1)), (4, .ref (ar 2)), (5, .ref (ar 3)), (6, .ref (ar 4)), (7, .ref (ar 5)), (8, .ref (ar 6)), (9, .ref (ar 8)), (10, .ref (ar 7)), (11, .ref (ar 9)), (12, .long q12), (14, .int (nI n14)), (15, .int (nI n15)), (16, .int (nI n16)), (17, .int (nI n17)), (18, .int (nI (n18 + 2))), (19, .int (nI n19)), (21, .int (fL_cell xs L (n18 + 1))), (22, .int (nI (lowN (fL_cell xs L n18) 14))), (23, .int (nI (lowN ((fL_cell xs L n18) >>> ((nI 4) &&& 31)) 3))), (25, .int (nI (lowN ((fL_cell xs L n18) >>> ((nI 9) &&& 31)) 3)))] → W p l e room_1 s m #[Value.ref b] below meth c H locs cells slots Q (F0 m 1199 ls []) := by
            intro hG ls hl
            unfold fSD_B1199 at hG
            refine lv_iload hx hb dL_law_1199 (lv_at hl 20 rfl) ?_
            refine lv_bipush (v := (nI 7)) hx hb dL_law_1201 (by decide) ?_
            have B1309 : fSD_B1309 xs L n18 σ τ q12 n14 n15 n16 n17 = some st → ∀ ls : Array Slot, lv_has ls 39 [(0, .ref b), (1, .ref (ad 0 0)), (2, .ref (ar 0)), (3, .ref (ar 1)), (4, .ref (ar 2)), (5, .ref (ar 3)), (6, .ref (ar 4)), (7, .ref (ar 5)), (8, .ref (ar 6)), (9, .ref (ar 8)), (10, .ref (ar 7)), (11, .ref (ar 9)), (12, .long q12), (14, .int (nI n14)), (15, .int (nI n15)), (16, .int (nI n16)), (17, .int (nI n17)), (18, .int (nI (n18 + 2))), (19, .int (nI n19)), (21, .int (fL_cell xs L (n18 + 1))), (22, .int (nI (lowN (fL_cell xs L n18) 14))), (23, .int (nI (lowN ((fL_cell xs L n18) >>> ((nI 4) &&& 31)) 3))), (25, .int (nI (lowN ((fL_cell xs L n18) >>> ((nI 9) &&& 31)) 3)))] → W p l e room_1 s m #[Value.ref b] below meth c H locs cells slots Q (F0 m 1309 ls []) := by
              intro hG ls hl
              unfold fSD_B1309 at hG
              refine lv_iload hx hb dL_law_1309 (lv_at hl 20 rfl) ?_
              refine lv_bipush (v := (nI 8)) hx hb dL_law_1311 (by decide) ?_
              have B1532 : fSD_B1532 xs L n18 σ τ q12 n14 n15 n16 n17 = some st → ∀ ls : Array Slot, lv_has ls 39 [(0, .ref b), (1, .ref (ad 0 0)), (2, .ref (ar 0)), (3, .ref (ar 1)), (4, .ref (ar 2)), (5, .ref (ar 3)), (6, .ref (ar 4)), (7, .ref (ar 5)), (8, .ref (ar 6)), (9, .ref (ar 8)), (10, .ref (ar 7)), (11, .ref (ar 9)), (12, .long q12), (14, .int (nI n14)), (15, .int (nI n15)), (16, .int (nI n16)), (17, .int (nI n17)), (18, .int (nI (n18 + 2))), (19, .int (nI n19)), (21, .int (fL_cell xs L (n18 + 1))), (22, .int (nI (lowN (fL_cell xs L n18) 14))), (23, .int (nI (lowN ((fL_cell xs L n18) >>> ((nI 4) &&& 31)) 3)))] → W p l e room_1 s m #[Value.ref b] below meth c H locs cells slots Q (F0 m 1532 ls []) := by
                intro hG ls hl
                unfold fSD_B1532 at hG
                refine lv_iload hx hb dL_law_1532 (lv_at hl 20 rfl) ?_
                refine lv_bipush (v := (nI 9)) hx hb dL_law_1534 (by decide) ?_
                refine lv_icmp_ne (tgt := 2019) hx hb dL_law_1536 (by decide) (fun c_1536 => ?_) (fun c_1536 => ?_)
                · skip
                  have c_1536 : ¬ lowN (fL_cell xs L n18) 14 = 9 := fun q => c_1536 ((nI_eq (a := (lowN (fL_cell xs L n18) 14)) (b := 9) (by omega) (by omega)).mpr q)
                  rw [if_neg c_1536] at hG
                  refine lv_iload hx hb dL_law_2019 (lv_at hl 20 rfl) ?_
                  refine lv_bipush (v := (nI 10)) hx hb dL_law_2021 (by decide) ?_
                  refine lv_icmp_ne (tgt := 2518) hx hb dL_law_2023 (by decide) (fun c_2023 => ?_) (fun c_2023 => ?_)
                  · skip
                    have c_2023 : ¬ lowN (fL_cell xs L n18) 14 = 10 := fun q => c_2023 ((nI_eq (a := (lowN (fL_cell xs L n18) 14)) (b := 10) (by omega) (by omega)).mpr q)
                    rw [if_neg c_2023] at hG
                    exact sS2518 F I hL hR hS hW hC (by omega) (by omega) (by omega) (by omega) (by omega) (by omega) (by omega) (by omega) hK1 hK2 (lv_sub hl [0, 1, 2, 3, 4, 5, 6, 7, 8, 9, 10, 11, 12, 13, 14, 15, 16, 17, 18, 19] rfl) kk hG
                  · skip
                    have c_2023 : lowN (fL_cell xs L n18) 14 = 10 := (nI_eq (a := (lowN (fL_cell xs L n18) 14)) (b := 10) (by omega) (by omega)).mp c_2023
                    rw [if_pos c_2023] at hG
                    exact sS2026 F I hL hR hS hW hC (by omega) (by omega) (by omega) (by omega) (by omega) (by omega) (by omega) (by omega) hK1 hK2 (lv_sub hl [0, 1, 2, 3, 4, 5, 6, 7, 8, 9, 10, 11, 12, 13, 14, 15, 16, 17, 18] rfl) kk hG
                · skip
                  have c_1536 : lowN (fL_cell xs L n18) 14 = 9 := (nI_eq (a := (lowN (fL_cell xs L n18) 14)) (b := 9) (by omega) (by omega)).mp c_1536
                  rw [if_pos c_1536] at hG
                  exact sS1539 F I hL hR hS hW hC (by omega) (by omega) (by omega) (by omega) (by omega) (by omega) (by first | assumption | omega) (by omega) (by omega) hK1 hK2 (lv_sub hl [0, 1, 2, 3, 4, 5, 6, 7, 8, 9, 10, 11, 12, 13, 14, 15, 16, 17, 18, 21, 19] rfl) kk hG
              refine lv_icmp_ne (tgt := 1532) hx hb dL_law_1313 (by decide) (fun c_1313 => ?_) (fun c_1313 => ?_)
              · skip
                have c_1313 : ¬ lowN (fL_cell xs L n18) 14 = 8 := fun q => c_1313 ((nI_eq (a := (lowN (fL_cell xs L n18) 14)) (b := 8) (by omega) (by omega)).mpr q)
                rw [if_neg c_1313] at hG
                exact B1532 hG ls (lv_sub hl [0, 1, 2, 3, 4, 5, 6, 7, 8, 9, 10, 11, 12, 13, 14, 15, 16, 17, 18, 19, 20, 21] rfl)
              · skip
                have c_1313 : lowN (fL_cell xs L n18) 14 = 8 := (nI_eq (a := (lowN (fL_cell xs L n18) 14)) (b := 8) (by omega) (by omega)).mp c_1313
                rw [if_pos c_1313] at hG
                refine lv_iload hx hb dL_law_1316 (lv_at hl 22 rfl) ?_
                refine lv_aload hx hb dL_law_1318 (lv_at hl 10 rfl) ?_
                refine lv_bipush (v := (nI 12)) hx hb dL_law_1320 (by decide) ?_
                refine xiald (i := 12) (n := 16) hx hb I (hL.2.1 7 16 (by decide)) (by omega) (by decide) dL_law_1322 ?_
                have f1322 : lI σ 7 12 = nI (lF σ) ∧ lF σ ≤ 3 := hW.2.2.2.2.1
                refine xtop (y := .int (nI (lF σ))) (congrArg Value.int f1322.1) ?_
                have b1322 := f1322.2
                refine lv_icmp_lt (tgt := 1532) hx hb dL_law_1323 (by decide) (fun c_1323 => ?_) (fun c_1323 => ?_)
                · skip
                  have c_1323 : lowN ((fL_cell xs L n18) >>> ((nI 9) &&& 31)) 3 < lF σ := (nI_ltI (a := (lowN ((fL_cell xs L n18) >>> ((nI 9) &&& 31)) 3)) (b := (lF σ)) (by omega) (by omega)).mp c_1323
                  rw [if_pos c_1323] at hG
                  exact B1532 hG ls (lv_sub hl [0, 1, 2, 3, 4, 5, 6, 7, 8, 9, 10, 11, 12, 13, 14, 15, 16, 17, 18, 19, 20, 21] rfl)
                · skip
                  have c_1323 : ¬ lowN ((fL_cell xs L n18) >>> ((nI 9) &&& 31)) 3 < lF σ := fun q => c_1323 ((nI_ltI (a := (lowN ((fL_cell xs L n18) >>> ((nI 9) &&& 31)) 3)) (b := (lF σ)) (by omega) (by omega)).mpr q)
                  rw [if_neg c_1323] at hG
                  exact sS1326 F I hL hR hS hW hC (by omega) (by omega) (by omega) (by omega) (by omega) (by omega) (by first | assumption | omega) (by first | assumption | omega) (by omega) (by omega) hK1 hK2 (lv_sub hl [0, 1, 2, 3, 4, 5, 6, 7, 8, 9, 10, 11, 12, 13, 14, 15, 16, 17, 18, 21, 19, 22] rfl) kk hG
            refine lv_icmp_ne (tgt := 1309) hx hb dL_law_1203 (by decide) (fun c_1203 => ?_) (fun c_1203 => ?_)
            · skip
              have c_1203 : ¬ lowN (fL_cell xs L n18) 14 = 7 := fun q => c_1203 ((nI_eq (a := (lowN (fL_cell xs L n18) 14)) (b := 7) (by omega) (by omega)).mpr q)
              rw [if_neg c_1203] at hG
              exact B1309 hG ls (lv_sub hl [0, 1, 2, 3, 4, 5, 6, 7, 8, 9, 10, 11, 12, 13, 14, 15, 16, 17, 18, 19, 20, 21, 22] rfl)
            · skip
              have c_1203 : lowN (fL_cell xs L n18) 14 = 7 := (nI_eq (a := (lowN (fL_cell xs L n18) 14)) (b := 7) (by omega) (by omega)).mp c_1203
              rw [if_pos c_1203] at hG
              refine lv_iload hx hb dL_law_1206 (lv_at hl 22 rfl) ?_
              refine lv_aload hx hb dL_law_1208 (lv_at hl 10 rfl) ?_
              refine lv_bipush (v := (nI 12)) hx hb dL_law_1210 (by decide) ?_
              refine xiald (i := 12) (n := 16) hx hb I (hL.2.1 7 16 (by decide)) (by omega) (by decide) dL_law_1212 ?_
              have f1212 : lI σ 7 12 = nI (lF σ) ∧ lF σ ≤ 3 := hW.2.2.2.2.1
              refine xtop (y := .int (nI (lF σ))) (congrArg Value.int f1212.1) ?_
              have b1212 := f1212.2
              refine lv_icmp_lt (tgt := 1309) hx hb dL_law_1213 (by decide) (fun c_1213 => ?_) (fun c_1213 => ?_)
              · skip
                have c_1213 : lowN ((fL_cell xs L n18) >>> ((nI 9) &&& 31)) 3 < lF σ := (nI_ltI (a := (lowN ((fL_cell xs L n18) >>> ((nI 9) &&& 31)) 3)) (b := (lF σ)) (by omega) (by omega)).mp c_1213
                rw [if_pos c_1213] at hG
                exact B1309 hG ls (lv_sub hl [0, 1, 2, 3, 4, 5, 6, 7, 8, 9, 10, 11, 12, 13, 14, 15, 16, 17, 18, 19, 20, 21, 22] rfl)
              · skip
                have c_1213 : ¬ lowN ((fL_cell xs L n18) >>> ((nI 9) &&& 31)) 3 < lF σ := fun q => c_1213 ((nI_ltI (a := (lowN ((fL_cell xs L n18) >>> ((nI 9) &&& 31)) 3)) (b := (lF σ)) (by omega) (by omega)).mpr q)
                rw [if_neg c_1213] at hG
                exact sS1216 F I hL hR hS hW hC (by omega) (by omega) (by omega) (by omega) (by omega) (by omega) (by first | assumption | omega) (by omega) (by omega) hK1 hK2 (lv_sub hl [0, 1, 2, 3, 4, 5, 6, 7, 8, 9, 10, 11, 12, 13, 14, 15, 16, 17, 18, 19, 22] rfl) kk hG
          refine lv_icmp_ne (tgt := 1199) hx hb dL_law_1112 (by decide) (fun c_1112 => ?_) (fun c_1112 => ?_)
          · skip
            have c_1112 : ¬ lowN (fL_cell xs L n18) 14 = 6 := fun q => c_1112 ((nI_eq (a := (lowN (fL_cell xs L n18) 14)) (b := 6) (by omega) (by omega)).mpr q)
            rw [if_neg c_1112] at hG
            exact B1199 hG ls (lv_sub hl [0, 1, 2, 3, 4, 5, 6, 7, 8, 9, 10, 11, 12, 13, 14, 15, 16, 17, 18, 19, 20, 21, 22] rfl)
          · skip
            have c_1112 : lowN (fL_cell xs L n18) 14 = 6 := (nI_eq (a := (lowN (fL_cell xs L n18) 14)) (b := 6) (by omega) (by omega)).mp c_1112
            rw [if_pos c_1112] at hG
            refine lv_iload hx hb dL_law_1115 (lv_at hl 22 rfl) ?_
            refine lv_aload hx hb dL_law_1117 (lv_at hl 10 rfl) ?_
            refine lv_bipush (v := (nI 12)) hx hb dL_law_1119 (by decide) ?_
            refine xiald (i := 12) (n := 16) hx hb I (hL.2.1 7 16 (by decide)) (by omega) (by decide) dL_law_1121 ?_
            have f1121 : lI σ 7 12 = nI (lF σ) ∧ lF σ ≤ 3 := hW.2.2.2.2.1
            refine xtop (y := .int (nI (lF σ))) (congrArg Value.int f1121.1) ?_
            have b1121 := f1121.2
            refine lv_icmp_lt (tgt := 1199) hx hb dL_law_1122 (by decide) (fun c_1122 => ?_) (fun c_1122 => ?_)
            · skip
              have c_1122 : lowN ((fL_cell xs L n18) >>> ((nI 9) &&& 31)) 3 < lF σ := (nI_ltI (a := (lowN ((fL_cell xs L n18) >>> ((nI 9) &&& 31)) 3)) (b := (lF σ)) (by omega) (by omega)).mp c_1122
              rw [if_pos c_1122] at hG
              exact B1199 hG ls (lv_sub hl [0, 1, 2, 3, 4, 5, 6, 7, 8, 9, 10, 11, 12, 13, 14, 15, 16, 17, 18, 19, 20, 21, 22] rfl)
            · skip
              have c_1122 : ¬ lowN ((fL_cell xs L n18) >>> ((nI 9) &&& 31)) 3 < lF σ := fun q => c_1122 ((nI_ltI (a := (lowN ((fL_cell xs L n18) >>> ((nI 9) &&& 31)) 3)) (b := (lF σ)) (by omega) (by omega)).mpr q)
              rw [if_neg c_1122] at hG
              exact sS1125 F I hL hR hS hW hC (by omega) (by omega) (by omega) (by omega) (by omega) (by omega) (by first | assumption | omega) (by omega) (by omega) hK1 hK2 (lv_sub hl [0, 1, 2, 3, 4, 5, 6, 7, 8, 9, 10, 11, 12, 13, 14, 15, 16, 17, 18, 19, 22] rfl) kk hG
        refine lv_icmp_ne (tgt := 1108) hx hb dL_law_905 (by decide) (fun c_905 => ?_) (fun c_905 => ?_)
        · skip
          have c_905 : ¬ lowN (fL_cell xs L n18) 14 = 5 := fun q => c_905 ((nI_eq (a := (lowN (fL_cell xs L n18) 14)) (b := 5) (by omega) (by omega)).mpr q)
          rw [if_neg c_905] at hG
          exact B1108 hG ls (lv_sub hl [0, 1, 2, 3, 4, 5, 6, 7, 8, 9, 10, 11, 12, 13, 14, 15, 16, 17, 18, 19, 20, 21, 22] rfl)
        · skip
          have c_905 : lowN (fL_cell xs L n18) 14 = 5 := (nI_eq (a := (lowN (fL_cell xs L n18) 14)) (b := 5) (by omega) (by omega)).mp c_905
          rw [if_pos c_905] at hG
          refine lv_iload hx hb dL_law_908 (lv_at hl 14 rfl) ?_
          refine lv_if_le (tgt := 1108) hx hb dL_law_910 (by decide) (fun c_910 => ?_) (fun c_910 => ?_)
          · skip
            have c_910 : n15 ≤ 0 := (nI_leI (a := n15) (b := 0) (by omega) (by omega)).mp c_910
            rw [if_pos c_910] at hG
            exact B1108 hG ls (lv_sub hl [0, 1, 2, 3, 4, 5, 6, 7, 8, 9, 10, 11, 12, 13, 14, 15, 16, 17, 18, 19, 20, 21, 22] rfl)
          · skip
            have c_910 : ¬ n15 ≤ 0 := fun q => c_910 ((nI_leI (a := n15) (b := 0) (by omega) (by omega)).mpr q)
            rw [if_neg c_910] at hG
            exact sS913 F I hL hR hS hW hC (by omega) (by omega) (by omega) (by omega) (by omega) (by omega) (by first | assumption | omega) (by omega) (by omega) hK1 hK2 (lv_sub hl [0, 1, 2, 3, 4, 5, 6, 7, 8, 9, 10, 11, 12, 13, 14, 15, 16, 17, 18, 19] rfl) kk hG
      refine lv_icmp_ge (tgt := 902) hx hb dL_law_619 (by decide) (fun c_619 => ?_) (fun c_619 => ?_)
      · skip
        have c_619 : 5 ≤ lowN (fL_cell xs L n18) 14 := (nI_leI (a := 5) (b := (lowN (fL_cell xs L n18) 14)) (by omega) (by omega)).mp c_619
        rw [if_pos c_619] at hG
        exact B902 hG ls (lv_sub hl [0, 1, 2, 3, 4, 5, 6, 7, 8, 9, 10, 11, 12, 13, 14, 15, 16, 17, 18, 20, 21, 22, 24] rfl)
      · skip
        have c_619 : ¬ 5 ≤ lowN (fL_cell xs L n18) 14 := fun q => c_619 ((nI_leI (a := 5) (b := (lowN (fL_cell xs L n18) 14)) (by omega) (by omega)).mpr q)
        rw [if_neg c_619] at hG
        refine lv_iload hx hb dL_law_622 (lv_at hl 14 rfl) ?_
        refine lv_bipush (v := (nI 10)) hx hb dL_law_624 (by decide) ?_
        refine lv_icmp_ge (tgt := 902) hx hb dL_law_626 (by decide) (fun c_626 => ?_) (fun c_626 => ?_)
        · skip
          have c_626 : 10 ≤ n15 := (nI_leI (a := 10) (b := n15) (by omega) (by omega)).mp c_626
          rw [if_pos c_626] at hG
          exact B902 hG ls (lv_sub hl [0, 1, 2, 3, 4, 5, 6, 7, 8, 9, 10, 11, 12, 13, 14, 15, 16, 17, 18, 20, 21, 22, 24] rfl)
        · skip
          have c_626 : ¬ 10 ≤ n15 := fun q => c_626 ((nI_leI (a := 10) (b := n15) (by omega) (by omega)).mpr q)
          rw [if_neg c_626] at hG
          exact sS629 F I hL hR hS hW hC (by omega) (by omega) (by omega) (by omega) (by omega) (by omega) (by first | assumption | omega) (by first | assumption | omega) (by omega) (by omega) hK1 hK2 (lv_sub hl [0, 1, 2, 3, 4, 5, 6, 7, 8, 9, 10, 11, 12, 13, 14, 15, 16, 17, 18, 19, 20, 23] rfl) kk hG
    · skip
      have c_513 : lowN (fL_cell xs L n18) 14 = 2 := (nI_eq (a := (lowN (fL_cell xs L n18) 14)) (b := 2) (by omega) (by omega)).mp c_513
      rw [if_pos c_513] at hG
      exact sS516 F I hL hR hS hW hC (by omega) (by omega) (by omega) (by omega) (by omega) (by omega) (by first | assumption | omega) (by omega) (by omega) hK1 hK2 (lv_sub hl [0, 1, 2, 3, 4, 5, 6, 7, 8, 9, 10, 11, 12, 13, 14, 15, 16, 17, 18, 23] rfl) kk hG
  refine lv_icmp_ge (tgt := 510) hx hb dL_law_349 (by decide) (fun c_349 => ?_) (fun c_349 => ?_)
  · skip
    have c_349 : 2 ≤ lowN (fL_cell xs L n18) 14 := (nI_leI (a := 2) (b := (lowN (fL_cell xs L n18) 14)) (by omega) (by omega)).mp c_349
    rw [if_pos c_349] at hG
    exact B510 hG ls (lv_sub hl [7, 8, 9, 10, 11, 12, 13, 14, 15, 16, 17, 18, 19, 20, 21, 22, 23, 4, 24, 6, 5, 3, 2, 1, 0] rfl)
  · skip
    have c_349 : ¬ 2 ≤ lowN (fL_cell xs L n18) 14 := fun q => c_349 ((nI_leI (a := 2) (b := (lowN (fL_cell xs L n18) 14)) (by omega) (by omega)).mpr q)
    rw [if_neg c_349] at hG
    refine lv_iload hx hb dL_law_352 (lv_at hl 20 rfl) ?_
    refine lv_bipush (v := (nI 12)) hx hb dL_law_354 (by decide) ?_
    refine lv_icmp_ge (tgt := 510) hx hb dL_law_356 (by decide) (fun c_356 => ?_) (fun c_356 => ?_)
    · skip
      have c_356 : 12 ≤ n14 := (nI_leI (a := 12) (b := n14) (by omega) (by omega)).mp c_356
      rw [if_pos c_356] at hG
      exact B510 hG ls (lv_sub hl [7, 8, 9, 10, 11, 12, 13, 14, 15, 16, 17, 18, 19, 20, 21, 22, 23, 4, 24, 6, 5, 3, 2, 1, 0] rfl)
    · skip
      have c_356 : ¬ 12 ≤ n14 := fun q => c_356 ((nI_leI (a := 12) (b := n14) (by omega) (by omega)).mpr q)
      rw [if_neg c_356] at hG
      exact sS359 F I hL hR hS hW hC (by omega) (by omega) (by omega) (by omega) (by omega) (by omega) (by first | assumption | omega) (by omega) (by omega) hK1 hK2 (lv_sub hl [7, 8, 9, 10, 11, 12, 13, 14, 15, 16, 17, 18, 19, 20, 21, 22, 23, 4, 24, 1] rfl) kk hG
