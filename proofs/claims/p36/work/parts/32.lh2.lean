def fL_bears_B375 (σ : LT) (n1 : Nat) (c1 : Nat) (v1 : Nat) (a9_9 : Int64) (a9_11 : Nat) (v375_0 : Int64) : Int64 := ((((lI σ 5 (3 * a9_11)).toInt64 + (((v375_0 - (lI σ 5 (3 * a9_11)).toInt64) * (lI σ 5 (3 * a9_11 + 2)).toInt64) / (100 : Int64))) + a9_9) - v375_0)
def fL_bears_B287 (σ : LT) (n1 : Nat) (c1 : Nat) (v1 : Nat) (a18_9 : Int64) (a33_11 : Nat) (a209_19 : Int64) (w287_14 : Int64) : (Int64 × Nat) := ((if w287_14 ≤ a209_19 then a18_9 else (a18_9 + (w287_14 - a209_19))), a33_11)
def fL_bears_S209 (σ : LT) (n1 : Nat) (c1 : Nat) (v1 : Nat) (k18 : Nat) (a18_9 : Int64) (a33_11 : Nat) (a33_14 : Int64) (k209 : Nat) (a209_17 : Int64) (a209_19 : Int64) : (Int64 × Int64) := ((if 0 ≤ (lI σ 4 (6 * k18 + (2 * k209))) then (lI σ 4 (6 * k18 + (2 * k209) + 1)).toInt64 else a209_17), (if 0 ≤ (lI σ 4 (6 * k18 + (2 * k209))) then (lI σ 4 (6 * k18 + (2 * k209))).toInt64 else a209_19))
def fL_bears_L209 (σ : LT) (n1 : Nat) (c1 : Nat) (v1 : Nat) (k18 : Nat) (a18_9 : Int64) (a33_11 : Nat) (a33_14 : Int64) : Nat → Nat → Int64 → Int64 → (Int64 × Nat)
  | 0, k209, a209_17, a209_19 => (fL_bears_B287 σ n1 c1 v1 a18_9 a33_11 a209_19 (if a33_14 ≤ a209_17 then a33_14 else a209_17))
  | n209 + 1, k209, a209_17, a209_19 => lseq (fL_bears_S209 σ n1 c1 v1 k18 a18_9 a33_11 a33_14 k209 a209_17 a209_19) (fun q => fL_bears_L209 σ n1 c1 v1 k18 a18_9 a33_11 a33_14 n209 (k209 + 1) q.1 q.2)
def fL_bears_B156 (σ : LT) (n1 : Nat) (c1 : Nat) (v1 : Nat) (k33 : Nat) (a33_14 : Int64) : (Nat × Int64 × Nat) := ((lK σ 3 (6 * k33 + 2)) / 100, (a33_14 + (lN (lK σ 3 (6 * k33 + 3)))), 1)
def fL_bears_S33 (σ : LT) (n1 : Nat) (c1 : Nat) (v1 : Nat) (k9 : Nat) (k18 : Nat) (a18_9 : Int64) (k33 : Nat) (a33_11 : Nat) (a33_14 : Int64) (a33_16 : Nat) : (Nat × Int64 × Nat) := (if lK σ 3 (6 * k33 + 4) = v1 then (if lK σ 3 (6 * k33) = k9 then (if lK σ 3 (6 * k33 + 1) = k18 then (if (fL_covered σ n1 k33) = 0 then ((lK σ 3 (6 * k33 + 2)) / 100, a33_14, a33_16) else (if 0 < (lK σ 3 (6 * k33 + 5)) &&& 2 then (fL_bears_B156 σ n1 c1 v1 k33 a33_14) else (if 5000 * (lK σ 1 (8 + k9)) ≤ lK σ 3 (6 * k33 + 3) then ((lK σ 3 (6 * k33 + 2)) / 100, (a33_14 + (lN (5000 * (lK σ 1 (8 + k9))))), 1) else (fL_bears_B156 σ n1 c1 v1 k33 a33_14)))) else ((lK σ 3 (6 * k33 + 2)) / 100, a33_14, a33_16)) else ((lK σ 3 (6 * k33 + 2)) / 100, a33_14, a33_16)) else (a33_11, a33_14, a33_16))
def fL_bears_L33 (σ : LT) (n1 : Nat) (c1 : Nat) (v1 : Nat) (k9 : Nat) (k18 : Nat) (a18_9 : Int64) : Nat → Nat → Nat → Int64 → Nat → (Int64 × Nat)
  | 0, k33, a33_11, a33_14, a33_16 => (if a33_16 = 0 then (a18_9, a33_11) else (fL_bears_L209 σ n1 c1 v1 k18 a18_9 a33_11 a33_14 (a33_11 + 1) 0 (10000000 : Int64) (0 : Int64)))
  | n33 + 1, k33, a33_11, a33_14, a33_16 => lseq (fL_bears_S33 σ n1 c1 v1 k9 k18 a18_9 k33 a33_11 a33_14 a33_16) (fun q => fL_bears_L33 σ n1 c1 v1 k9 k18 a18_9 n33 (k33 + 1) q.1 q.2.1 q.2.2)
def fL_bears_S18 (σ : LT) (n1 : Nat) (c1 : Nat) (v1 : Nat) (k9 : Nat) (k18 : Nat) (a18_9 : Int64) (a18_11 : Nat) : (Int64 × Nat) := (fL_bears_L33 σ n1 c1 v1 k9 k18 a18_9 c1 0 a18_11 (0 : Int64) 0)
def fL_bears_L18 (σ : LT) (n1 : Nat) (c1 : Nat) (v1 : Nat) (k9 : Nat) : Nat → Nat → Int64 → Nat → (Int64 × Nat)
  | 0, k18, a18_9, a18_11 => (a18_9, a18_11)
  | n18 + 1, k18, a18_9, a18_11 => lseq (fL_bears_S18 σ n1 c1 v1 k9 k18 a18_9 a18_11) (fun q => fL_bears_L18 σ n1 c1 v1 k9 n18 (k18 + 1) q.1 q.2)
def fL_bears_S9 (σ : LT) (n1 : Nat) (c1 : Nat) (v1 : Nat) (k9 : Nat) (a9_9 : Int64) (a9_11 : Nat) : (Int64 × Nat) := (fL_bears_L18 σ n1 c1 v1 k9 4 0 a9_9 a9_11)
def fL_bears_L9 (σ : LT) (n1 : Nat) (c1 : Nat) (v1 : Nat) : Nat → Nat → Int64 → Nat → Int64
  | 0, k9, a9_9, a9_11 => (if (lI σ 5 (3 * a9_11)) < 0 then a9_9 else (if (lI σ 5 (3 * a9_11)).toInt64 < a9_9 then (fL_bears_B375 σ n1 c1 v1 a9_9 a9_11 (if a9_9 ≤ (lI σ 5 (3 * a9_11 + 1)).toInt64 then a9_9 else (lI σ 5 (3 * a9_11 + 1)).toInt64)) else a9_9))
  | n9 + 1, k9, a9_9, a9_11 => lseq (fL_bears_S9 σ n1 c1 v1 k9 a9_9 a9_11) (fun q => fL_bears_L9 σ n1 c1 v1 n9 (k9 + 1) q.1 q.2)
def fL_bears (σ : LT) (n1 : Nat) (c1 : Nat) (v1 : Nat) : Int64 := (fL_bears_L9 σ n1 c1 v1 5 0 (0 : Int64) 0)
set_option maxHeartbeats 4000000 in
set_option maxRecDepth 100000 in
theorem mL_bears (l : Launch) (lo : Nat) (D : va_G) (E : Nat → ClassId) (h : XW) (σ : LT) (ar : Nat → Nat) (hL : RA E σ ar h) (hW : LW σ) (n1 : Nat) (c1 : Nat) (v1 : Nat) (hn : n1 ≤ 12) (hc : c1 ≤ 10) (hv : v1 < 1000) : Met l yL_bears wsL_bears ({ frames := 1, cells := 0, slots := 0, locals := 26 } : Room) (xP lo D E h [.ref (ar 0), .int (nI n1), .ref (ar 1), .ref (ar 3), .int (nI c1), .ref (ar 4), .ref (ar 5), .ref (ar 7), .int (nI v1)]) (xR (some (.long (fL_bears σ n1 c1 v1)))) 0 0 (fun _ => False) := by
  obtain ⟨G, hG⟩ : ∃ G, fL_bears σ n1 c1 v1 = G := ⟨_, rfl⟩
  rw [hG]
  unfold fL_bears at hG
  refine Met.ofW (cc := cL_bears) (maxL := 22) (ret := (some .long)) (by decide) rfl ?_
  intro p e s m args below meth c s₁ B hml hv
  obtain ⟨rfl, I⟩ := hv
  have hx := B.exec
  have hb := B.bytes
  have hr := B.returns
  have hts := atoms_spec (ws := wsL_bears) B.pre
  have hown : s.vm.findClass RL = some m.cls := findClass_of_methodNamed B.named
  have hlocks := B.notSynchronized
  have hl := lv_entry ([.ref (ar 0), .int (nI n1), .ref (ar 1), .ref (ar 3), .int (nI c1), .ref (ar 4), .ref (ar 5), .ref (ar 7), .int (nI v1)] : List Value) (n := 22) (Nat.le_of_ble_eq_true rfl)
  rw [lg_entry_eq]
  generalize (lg_sl ([.ref (ar 0), .int (nI n1), .ref (ar 1), .ref (ar 3), .int (nI c1), .ref (ar 4), .ref (ar 5), .ref (ar 7), .int (nI v1)] : List Value) ++ List.replicate (22 - (lg_sl ([.ref (ar 0), .int (nI n1), .ref (ar 1), .ref (ar 3), .int (nI c1), .ref (ar 4), .ref (ar 5), .ref (ar 7), .int (nI v1)] : List Value)).length) Slot.unset).toArray = ls at hl ⊢
  have hl : lv_has ls 22 [(0, .ref (ar 0)), (1, .int (nI n1)), (2, .ref (ar 1)), (3, .ref (ar 3)), (4, .int (nI c1)), (5, .ref (ar 4)), (6, .ref (ar 5)), (7, .ref (ar 7)), (8, .int (nI v1))] := hl
  refine lv_lconst (v := (0 : Int64)) hx hb dL_bears_0 rfl ?_
  refine lv_lstore (lv' := [(9, .long (0 : Int64)), (0, .ref (ar 0)), (1, .int (nI n1)), (2, .ref (ar 1)), (3, .ref (ar 3)), (4, .int (nI c1)), (5, .ref (ar 4)), (6, .ref (ar 5)), (7, .ref (ar 7)), (8, .int (nI v1))]) hx hb dL_bears_1 hl (by decide) rfl (fun ls hl => ?_)
  refine lv_iconst (v := (nI 0)) hx hb dL_bears_3 (by decide) ?_
  refine lv_istore (lv' := [(11, .int (nI 0)), (9, .long (0 : Int64)), (0, .ref (ar 0)), (1, .int (nI n1)), (2, .ref (ar 1)), (3, .ref (ar 3)), (4, .int (nI c1)), (5, .ref (ar 4)), (6, .ref (ar 5)), (7, .ref (ar 7)), (8, .int (nI v1))]) hx hb dL_bears_4 hl (by decide) rfl (fun ls hl => ?_)
  refine lv_iconst (v := (nI 0)) hx hb dL_bears_6 (by decide) ?_
  refine lv_istore (lv' := [(12, .int (nI 0)), (11, .int (nI 0)), (9, .long (0 : Int64)), (0, .ref (ar 0)), (1, .int (nI n1)), (2, .ref (ar 1)), (3, .ref (ar 3)), (4, .int (nI c1)), (5, .ref (ar 4)), (6, .ref (ar 5)), (7, .ref (ar 7)), (8, .int (nI v1))]) hx hb dL_bears_7 hl (by decide) rfl (fun ls hl => ?_)
  have L9 : ∀ (n9 : Nat) (k9 : Nat) (a9_9 : Int64) (a9_11 : Nat), k9 + n9 = 5 → (a9_11 < 3) → fL_bears_L9 σ n1 c1 v1 n9 k9 a9_9 a9_11 = G → ∀ ls : Array Slot, lv_has ls 22 [(0, .ref (ar 0)), (1, .int (nI n1)), (2, .ref (ar 1)), (3, .ref (ar 3)), (4, .int (nI c1)), (5, .ref (ar 4)), (6, .ref (ar 5)), (7, .ref (ar 7)), (8, .int (nI v1)), (9, .long a9_9), (11, .int (nI a9_11)), (12, .int (nI k9))] → W p l e (headSpec wsL_bears ({ frames := 1, cells := 0, slots := 0, locals := 26 } : Room)).room s m ([.ref (ar 0), .int (nI n1), .ref (ar 1), .ref (ar 3), .int (nI c1), .ref (ar 4), .ref (ar 5), .ref (ar 7), .int (nI v1)] : List Value).toArray below meth c s.heap [] 0 0 (MQ below (xR (some (.long G))) ([.ref (ar 0), .int (nI n1), .ref (ar 1), .ref (ar 3), .int (nI c1), .ref (ar 4), .ref (ar 5), .ref (ar 7), .int (nI v1)] : List Value).toArray s 0 0 (fun _ => False)) (F0 m 9 ls []) := by
    intro n9
    induction n9 with
    | zero =>
      intro k9 a9_9 a9_11 hkn i9_0 hG ls hl
      have hkN : k9 = 5 := by omega
      have hG : (if (lI σ 5 (3 * a9_11)) < 0 then a9_9 else (if (lI σ 5 (3 * a9_11)).toInt64 < a9_9 then (fL_bears_B375 σ n1 c1 v1 a9_9 a9_11 (if a9_9 ≤ (lI σ 5 (3 * a9_11 + 1)).toInt64 then a9_9 else (lI σ 5 (3 * a9_11 + 1)).toInt64)) else a9_9)) = G := hG
      refine lv_iload hx hb dL_bears_9 (lv_at hl 11 rfl) ?_
      refine lv_iconst (v := (nI 5)) hx hb dL_bears_11 (by decide) ?_
      refine lv_icmp_ge (tgt := 317) hx hb dL_bears_12 (by decide) (fun _ => ?_) (fun q => absurd (nI_le (Nat.le_of_eq hkN.symm) (by omega)) q)
      refine lv_aload hx hb dL_bears_317 (lv_at hl 6 rfl) ?_
      refine lv_iconst (v := (nI 3)) hx hb dL_bears_319 (by decide) ?_
      refine lv_iload hx hb dL_bears_320 (lv_at hl 10 rfl) ?_
      refine lv_imul hx hb dL_bears_322 ?_
      refine xtop (y := .int (nI (3 * a9_11))) (congrArg Value.int (pk_mul _ _)) ?_
      refine xiald (i := (3 * a9_11)) (n := 9) hx hb I (hL.2.1 5 9 (by decide)) (by omega) (by decide) dL_bears_323 ?_
      refine lv_if_lt (tgt := 341) hx hb dL_bears_324 (by decide) (fun c_324 => ?_) (fun c_324 => ?_)
      · skip
        rw [if_pos c_324] at hG
        refine lv_lload hx hb dL_bears_341 (lv_at hl 9 rfl) ?_
        exact xrlR hx hb hr hlocks dL_bears_343 hG
      · skip
        rw [if_neg c_324] at hG
        refine lv_lload hx hb dL_bears_327 (lv_at hl 9 rfl) ?_
        refine lv_aload hx hb dL_bears_329 (lv_at hl 6 rfl) ?_
        refine lv_iconst (v := (nI 3)) hx hb dL_bears_331 (by decide) ?_
        refine lv_iload hx hb dL_bears_332 (lv_at hl 10 rfl) ?_
        refine lv_imul hx hb dL_bears_334 ?_
        refine xtop (y := .int (nI (3 * a9_11))) (congrArg Value.int (pk_mul _ _)) ?_
        refine xiald (i := (3 * a9_11)) (n := 9) hx hb I (hL.2.1 5 9 (by decide)) (by omega) (by decide) dL_bears_335 ?_
        refine lv_i2l (v := (lI σ 5 (3 * a9_11)).toInt64) hx hb dL_bears_336 rfl ?_
        refine xl_gt (tgt := 344) hx hb dL_bears_337 dL_bears_338 (by decide) (fun c_337 => ?_) (fun c_337 => ?_)
        · skip
          rw [if_pos c_337] at hG
          refine lv_lload hx hb dL_bears_344 (lv_at hl 9 rfl) ?_
          refine lv_aload hx hb dL_bears_346 (lv_at hl 6 rfl) ?_
          refine lv_iconst (v := (nI 3)) hx hb dL_bears_348 (by decide) ?_
          refine lv_iload hx hb dL_bears_349 (lv_at hl 10 rfl) ?_
          refine lv_imul hx hb dL_bears_351 ?_
          refine xtop (y := .int (nI (3 * a9_11))) (congrArg Value.int (pk_mul _ _)) ?_
          refine lv_iconst (v := (nI 1)) hx hb dL_bears_352 (by decide) ?_
          refine lv_iadd hx hb dL_bears_353 ?_
          refine xtop (y := .int (nI (3 * a9_11 + 1))) (congrArg Value.int (nI_add _ _)) ?_
          refine xiald (i := (3 * a9_11 + 1)) (n := 9) hx hb I (hL.2.1 5 9 (by decide)) (by omega) (by decide) dL_bears_354 ?_
          refine lv_i2l (v := (lI σ 5 (3 * a9_11 + 1)).toInt64) hx hb dL_bears_355 rfl ?_
          have B375 : ∀ (v375_0 : Int64), fL_bears_B375 σ n1 c1 v1 a9_9 a9_11 v375_0 = G → ∀ ls : Array Slot, lv_has ls 22 [(6, .ref (ar 5)), (9, .long a9_9), (11, .int (nI a9_11))] → W p l e (headSpec wsL_bears ({ frames := 1, cells := 0, slots := 0, locals := 26 } : Room)).room s m ([.ref (ar 0), .int (nI n1), .ref (ar 1), .ref (ar 3), .int (nI c1), .ref (ar 4), .ref (ar 5), .ref (ar 7), .int (nI v1)] : List Value).toArray below meth c s.heap [] 0 0 (MQ below (xR (some (.long G))) ([.ref (ar 0), .int (nI n1), .ref (ar 1), .ref (ar 3), .int (nI c1), .ref (ar 4), .ref (ar 5), .ref (ar 7), .int (nI v1)] : List Value).toArray s 0 0 (fun _ => False)) (F0 m 375 ls [.long v375_0]) := by
            intro v375_0 hG ls hl
            unfold fL_bears_B375 at hG
            refine lv_lstore (lv' := [(12, .long v375_0), (6, .ref (ar 5)), (9, .long a9_9), (11, .int (nI a9_11))]) hx hb dL_bears_375 hl (by decide) rfl (fun ls hl => ?_)
            refine lv_aload hx hb dL_bears_377 (lv_at hl 1 rfl) ?_
            refine lv_iconst (v := (nI 3)) hx hb dL_bears_379 (by decide) ?_
            refine lv_iload hx hb dL_bears_380 (lv_at hl 3 rfl) ?_
            refine lv_imul hx hb dL_bears_382 ?_
            refine xtop (y := .int (nI (3 * a9_11))) (congrArg Value.int (pk_mul _ _)) ?_
            refine xiald (i := (3 * a9_11)) (n := 9) hx hb I (hL.2.1 5 9 (by decide)) (by omega) (by decide) dL_bears_383 ?_
            refine lv_i2l (v := (lI σ 5 (3 * a9_11)).toInt64) hx hb dL_bears_384 rfl ?_
            refine lv_lload hx hb dL_bears_385 (lv_at hl 0 rfl) ?_
            refine lv_aload hx hb dL_bears_387 (lv_at hl 1 rfl) ?_
            refine lv_iconst (v := (nI 3)) hx hb dL_bears_389 (by decide) ?_
            refine lv_iload hx hb dL_bears_390 (lv_at hl 3 rfl) ?_
            refine lv_imul hx hb dL_bears_392 ?_
            refine xtop (y := .int (nI (3 * a9_11))) (congrArg Value.int (pk_mul _ _)) ?_
            refine xiald (i := (3 * a9_11)) (n := 9) hx hb I (hL.2.1 5 9 (by decide)) (by omega) (by decide) dL_bears_393 ?_
            refine lv_i2l (v := (lI σ 5 (3 * a9_11)).toInt64) hx hb dL_bears_394 rfl ?_
            refine lv_lsub hx hb dL_bears_395 ?_
            refine lv_aload hx hb dL_bears_396 (lv_at hl 1 rfl) ?_
            refine lv_iconst (v := (nI 3)) hx hb dL_bears_398 (by decide) ?_
            refine lv_iload hx hb dL_bears_399 (lv_at hl 3 rfl) ?_
            refine lv_imul hx hb dL_bears_401 ?_
            refine xtop (y := .int (nI (3 * a9_11))) (congrArg Value.int (pk_mul _ _)) ?_
            refine lv_iconst (v := (nI 2)) hx hb dL_bears_402 (by decide) ?_
            refine lv_iadd hx hb dL_bears_403 ?_
            refine xtop (y := .int (nI (3 * a9_11 + 2))) (congrArg Value.int (nI_add _ _)) ?_
            refine xiald (i := (3 * a9_11 + 2)) (n := 9) hx hb I (hL.2.1 5 9 (by decide)) (by omega) (by decide) dL_bears_404 ?_
            refine lv_i2l (v := (lI σ 5 (3 * a9_11 + 2)).toInt64) hx hb dL_bears_405 rfl ?_
            refine lv_lmul hx hb dL_bears_406 ?_
            refine lv_ldc2 (v := (100 : Int64)) hx hb hown (hts _ (List.mem_of_getElem? (i := 2) rfl)) dL_bears_407 ?_
            refine lv_ldiv hx hb dL_bears_410 (by decide) ?_
            refine lv_ladd hx hb dL_bears_411 ?_
            refine lv_lload hx hb dL_bears_412 (lv_at hl 2 rfl) ?_
            refine lv_ladd hx hb dL_bears_414 ?_
            refine lv_lload hx hb dL_bears_415 (lv_at hl 0 rfl) ?_
            refine lv_lsub hx hb dL_bears_417 ?_
            exact xrlR hx hb hr hlocks dL_bears_418 hG
          refine xl_le (tgt := 373) hx hb dL_bears_356 dL_bears_357 (by decide) (fun c_356 => ?_) (fun c_356 => ?_)
          · skip
            rw [if_pos c_356] at hG
            refine lv_lload hx hb dL_bears_373 (lv_at hl 9 rfl) ?_
            exact B375 a9_9 hG ls (lv_sub hl [6, 9, 10] rfl)
          · skip
            rw [if_neg c_356] at hG
            refine lv_aload hx hb dL_bears_360 (lv_at hl 6 rfl) ?_
            refine lv_iconst (v := (nI 3)) hx hb dL_bears_362 (by decide) ?_
            refine lv_iload hx hb dL_bears_363 (lv_at hl 10 rfl) ?_
            refine lv_imul hx hb dL_bears_365 ?_
            refine xtop (y := .int (nI (3 * a9_11))) (congrArg Value.int (pk_mul _ _)) ?_
            refine lv_iconst (v := (nI 1)) hx hb dL_bears_366 (by decide) ?_
            refine lv_iadd hx hb dL_bears_367 ?_
            refine xtop (y := .int (nI (3 * a9_11 + 1))) (congrArg Value.int (nI_add _ _)) ?_
            refine xiald (i := (3 * a9_11 + 1)) (n := 9) hx hb I (hL.2.1 5 9 (by decide)) (by omega) (by decide) dL_bears_368 ?_
            refine lv_i2l (v := (lI σ 5 (3 * a9_11 + 1)).toInt64) hx hb dL_bears_369 rfl ?_
            refine lv_goto (tgt := 375) hx hb dL_bears_370 (by decide) ?_
            exact B375 ((lI σ 5 (3 * a9_11 + 1)).toInt64) hG ls (lv_sub hl [6, 9, 10] rfl)
        · skip
          rw [if_neg c_337] at hG
          refine lv_lload hx hb dL_bears_341 (lv_at hl 9 rfl) ?_
          exact xrlR hx hb hr hlocks dL_bears_343 hG
    | succ n9 ih9 =>
      intro k9 a9_9 a9_11 hkn i9_0 hG ls hl
      have hk : k9 < 5 := by omega
      have hG : lseq ((fL_bears_L18 σ n1 c1 v1 k9 4 0 a9_9 a9_11)) (fun q => fL_bears_L9 σ n1 c1 v1 n9 (k9 + 1) q.1 q.2) = G := hG
      refine lv_iload hx hb dL_bears_9 (lv_at hl 11 rfl) ?_
      refine lv_iconst (v := (nI 5)) hx hb dL_bears_11 (by decide) ?_
      refine lv_icmp_ge (tgt := 317) hx hb dL_bears_12 (by decide) (fun q => absurd q (nI_ge hk (by omega))) (fun _ => ?_)
      refine lv_iconst (v := (nI 0)) hx hb dL_bears_15 (by decide) ?_
      refine lv_istore (lv' := [(13, .int (nI 0)), (0, .ref (ar 0)), (1, .int (nI n1)), (2, .ref (ar 1)), (3, .ref (ar 3)), (4, .int (nI c1)), (5, .ref (ar 4)), (6, .ref (ar 5)), (7, .ref (ar 7)), (8, .int (nI v1)), (9, .long a9_9), (11, .int (nI a9_11)), (12, .int (nI k9))]) hx hb dL_bears_16 hl (by decide) rfl (fun ls hl => ?_)
      have L18 : ∀ (n18 : Nat) (k18 : Nat) (a18_9 : Int64) (a18_11 : Nat), k18 + n18 = 4 → (a18_11 < 3) → lseq (fL_bears_L18 σ n1 c1 v1 k9 n18 k18 a18_9 a18_11) (fun q => fL_bears_L9 σ n1 c1 v1 n9 (k9 + 1) q.1 q.2) = G → ∀ ls : Array Slot, lv_has ls 22 [(0, .ref (ar 0)), (1, .int (nI n1)), (2, .ref (ar 1)), (3, .ref (ar 3)), (4, .int (nI c1)), (5, .ref (ar 4)), (6, .ref (ar 5)), (7, .ref (ar 7)), (8, .int (nI v1)), (9, .long a18_9), (11, .int (nI a18_11)), (12, .int (nI k9)), (13, .int (nI k18))] → W p l e (headSpec wsL_bears ({ frames := 1, cells := 0, slots := 0, locals := 26 } : Room)).room s m ([.ref (ar 0), .int (nI n1), .ref (ar 1), .ref (ar 3), .int (nI c1), .ref (ar 4), .ref (ar 5), .ref (ar 7), .int (nI v1)] : List Value).toArray below meth c s.heap [] 0 0 (MQ below (xR (some (.long G))) ([.ref (ar 0), .int (nI n1), .ref (ar 1), .ref (ar 3), .int (nI c1), .ref (ar 4), .ref (ar 5), .ref (ar 7), .int (nI v1)] : List Value).toArray s 0 0 (fun _ => False)) (F0 m 18 ls []) := by
        intro n18
        induction n18 with
        | zero =>
          intro k18 a18_9 a18_11 hkn i18_0 hG ls hl
          have hkN : k18 = 4 := by omega
          have hG : lseq ((a18_9, a18_11)) (fun q => fL_bears_L9 σ n1 c1 v1 n9 (k9 + 1) q.1 q.2) = G := hG
          refine lv_iload hx hb dL_bears_18 (lv_at hl 12 rfl) ?_
          refine lv_iconst (v := (nI 4)) hx hb dL_bears_20 (by decide) ?_
          refine lv_icmp_ge (tgt := 311) hx hb dL_bears_21 (by decide) (fun _ => ?_) (fun q => absurd (nI_le (Nat.le_of_eq hkN.symm) (by omega)) q)
          refine lv_iinc (v := (nI (k9 + 1))) (lv' := [(12, .int (nI (k9 + 1))), (0, .ref (ar 0)), (1, .int (nI n1)), (2, .ref (ar 1)), (3, .ref (ar 3)), (4, .int (nI c1)), (5, .ref (ar 4)), (6, .ref (ar 5)), (7, .ref (ar 7)), (8, .int (nI v1)), (9, .long a18_9), (11, .int (nI a18_11)), (13, .int (nI k18))]) hx hb dL_bears_311 hl (k := 11) rfl (nI_succ k9).symm (by decide) rfl (fun ls hl => ?_)
          refine lv_goto (tgt := 9) hx hb dL_bears_314 (by decide) ?_
          exact ih9 (k9 + 1) a18_9 a18_11 (by first | omega | (simp only [lSI_K]; omega)) (by first | assumption | omega) hG ls (lv_sub hl [1, 2, 3, 4, 5, 6, 7, 8, 9, 10, 11, 0] rfl)
        | succ n18 ih18 =>
          intro k18 a18_9 a18_11 hkn i18_0 hG ls hl
          have hk : k18 < 4 := by omega
          have hG : lseq (lseq ((fL_bears_L33 σ n1 c1 v1 k9 k18 a18_9 c1 0 a18_11 (0 : Int64) 0)) (fun q => fL_bears_L18 σ n1 c1 v1 k9 n18 (k18 + 1) q.1 q.2)) (fun q => fL_bears_L9 σ n1 c1 v1 n9 (k9 + 1) q.1 q.2) = G := hG
          refine lv_iload hx hb dL_bears_18 (lv_at hl 12 rfl) ?_
          refine lv_iconst (v := (nI 4)) hx hb dL_bears_20 (by decide) ?_
          refine lv_icmp_ge (tgt := 311) hx hb dL_bears_21 (by decide) (fun q => absurd q (nI_ge hk (by omega))) (fun _ => ?_)
          refine lv_lconst (v := (0 : Int64)) hx hb dL_bears_24 rfl ?_
          refine lv_lstore (lv' := [(14, .long (0 : Int64)), (0, .ref (ar 0)), (1, .int (nI n1)), (2, .ref (ar 1)), (3, .ref (ar 3)), (4, .int (nI c1)), (5, .ref (ar 4)), (6, .ref (ar 5)), (7, .ref (ar 7)), (8, .int (nI v1)), (9, .long a18_9), (11, .int (nI a18_11)), (12, .int (nI k9)), (13, .int (nI k18))]) hx hb dL_bears_25 hl (by decide) rfl (fun ls hl => ?_)
          refine lv_iconst (v := (nI 0)) hx hb dL_bears_27 (by decide) ?_
          refine lv_istore (lv' := [(16, .int (nI 0)), (14, .long (0 : Int64)), (0, .ref (ar 0)), (1, .int (nI n1)), (2, .ref (ar 1)), (3, .ref (ar 3)), (4, .int (nI c1)), (5, .ref (ar 4)), (6, .ref (ar 5)), (7, .ref (ar 7)), (8, .int (nI v1)), (9, .long a18_9), (11, .int (nI a18_11)), (12, .int (nI k9)), (13, .int (nI k18))]) hx hb dL_bears_28 hl (by decide) rfl (fun ls hl => ?_)
          refine lv_iconst (v := (nI 0)) hx hb dL_bears_30 (by decide) ?_
          refine lv_istore (lv' := [(17, .int (nI 0)), (16, .int (nI 0)), (14, .long (0 : Int64)), (0, .ref (ar 0)), (1, .int (nI n1)), (2, .ref (ar 1)), (3, .ref (ar 3)), (4, .int (nI c1)), (5, .ref (ar 4)), (6, .ref (ar 5)), (7, .ref (ar 7)), (8, .int (nI v1)), (9, .long a18_9), (11, .int (nI a18_11)), (12, .int (nI k9)), (13, .int (nI k18))]) hx hb dL_bears_31 hl (by decide) rfl (fun ls hl => ?_)
          have L33 : ∀ (n33 : Nat) (k33 : Nat) (a33_11 : Nat) (a33_14 : Int64) (a33_16 : Nat), k33 + n33 = c1 → (a33_11 < 3) → (a33_16 ≤ 1) → lseq (lseq (fL_bears_L33 σ n1 c1 v1 k9 k18 a18_9 n33 k33 a33_11 a33_14 a33_16) (fun q => fL_bears_L18 σ n1 c1 v1 k9 n18 (k18 + 1) q.1 q.2)) (fun q => fL_bears_L9 σ n1 c1 v1 n9 (k9 + 1) q.1 q.2) = G → ∀ ls : Array Slot, lv_has ls 22 [(0, .ref (ar 0)), (1, .int (nI n1)), (2, .ref (ar 1)), (3, .ref (ar 3)), (4, .int (nI c1)), (5, .ref (ar 4)), (6, .ref (ar 5)), (7, .ref (ar 7)), (8, .int (nI v1)), (9, .long a18_9), (11, .int (nI a33_11)), (12, .int (nI k9)), (13, .int (nI k18)), (14, .long a33_14), (16, .int (nI a33_16)), (17, .int (nI k33))] → W p l e (headSpec wsL_bears ({ frames := 1, cells := 0, slots := 0, locals := 26 } : Room)).room s m ([.ref (ar 0), .int (nI n1), .ref (ar 1), .ref (ar 3), .int (nI c1), .ref (ar 4), .ref (ar 5), .ref (ar 7), .int (nI v1)] : List Value).toArray below meth c s.heap [] 0 0 (MQ below (xR (some (.long G))) ([.ref (ar 0), .int (nI n1), .ref (ar 1), .ref (ar 3), .int (nI c1), .ref (ar 4), .ref (ar 5), .ref (ar 7), .int (nI v1)] : List Value).toArray s 0 0 (fun _ => False)) (F0 m 33 ls []) := by
            intro n33
            induction n33 with
            | zero =>
              intro k33 a33_11 a33_14 a33_16 hkn i33_0 i33_1 hG ls hl
              have hkN : k33 = c1 := by omega
              have hG : lseq (lseq ((if a33_16 = 0 then (a18_9, a33_11) else (fL_bears_L209 σ n1 c1 v1 k18 a18_9 a33_11 a33_14 (a33_11 + 1) 0 (10000000 : Int64) (0 : Int64)))) (fun q => fL_bears_L18 σ n1 c1 v1 k9 n18 (k18 + 1) q.1 q.2)) (fun q => fL_bears_L9 σ n1 c1 v1 n9 (k9 + 1) q.1 q.2) = G := hG
              refine lv_iload hx hb dL_bears_33 (lv_at hl 15 rfl) ?_
              refine lv_iload hx hb dL_bears_35 (lv_at hl 4 rfl) ?_
              refine lv_icmp_ge (tgt := 190) hx hb dL_bears_37 (by decide) (fun _ => ?_) (fun q => absurd (nI_le (Nat.le_of_eq hkN.symm) (by omega)) q)
              refine lv_iload hx hb dL_bears_190 (lv_at hl 14 rfl) ?_
              refine lv_if_ne (tgt := 198) hx hb dL_bears_192 (by decide) (fun c_192 => ?_) (fun c_192 => ?_)
              · skip
                have c_192 : ¬ a33_16 = 0 := fun q => c_192 ((nI_eq (a := a33_16) (b := 0) (by omega) (by omega)).mpr q)
                rw [if_neg c_192] at hG
                refine lv_ldc2 (v := (10000000 : Int64)) hx hb hown (hts _ (List.mem_of_getElem? (i := 1) rfl)) dL_bears_198 ?_
                refine lv_lstore (lv' := [(17, .long (10000000 : Int64)), (0, .ref (ar 0)), (1, .int (nI n1)), (2, .ref (ar 1)), (3, .ref (ar 3)), (4, .int (nI c1)), (5, .ref (ar 4)), (6, .ref (ar 5)), (7, .ref (ar 7)), (8, .int (nI v1)), (9, .long a18_9), (11, .int (nI a33_11)), (12, .int (nI k9)), (13, .int (nI k18)), (14, .long a33_14), (16, .int (nI a33_16))]) hx hb dL_bears_201 hl (by decide) rfl (fun ls hl => ?_)
                refine lv_lconst (v := (0 : Int64)) hx hb dL_bears_203 rfl ?_
                refine lv_lstore (lv' := [(19, .long (0 : Int64)), (17, .long (10000000 : Int64)), (0, .ref (ar 0)), (1, .int (nI n1)), (2, .ref (ar 1)), (3, .ref (ar 3)), (4, .int (nI c1)), (5, .ref (ar 4)), (6, .ref (ar 5)), (7, .ref (ar 7)), (8, .int (nI v1)), (9, .long a18_9), (11, .int (nI a33_11)), (12, .int (nI k9)), (13, .int (nI k18)), (14, .long a33_14), (16, .int (nI a33_16))]) hx hb dL_bears_204 hl (by decide) rfl (fun ls hl => ?_)
                refine lv_iconst (v := (nI 0)) hx hb dL_bears_206 (by decide) ?_
                refine lv_istore (lv' := [(21, .int (nI 0)), (19, .long (0 : Int64)), (17, .long (10000000 : Int64)), (0, .ref (ar 0)), (1, .int (nI n1)), (2, .ref (ar 1)), (3, .ref (ar 3)), (4, .int (nI c1)), (5, .ref (ar 4)), (6, .ref (ar 5)), (7, .ref (ar 7)), (8, .int (nI v1)), (9, .long a18_9), (11, .int (nI a33_11)), (12, .int (nI k9)), (13, .int (nI k18)), (14, .long a33_14), (16, .int (nI a33_16))]) hx hb dL_bears_207 hl (by decide) rfl (fun ls hl => ?_)
                have L209 : ∀ (n209 : Nat) (k209 : Nat) (a209_17 : Int64) (a209_19 : Int64), k209 + n209 = (a33_11 + 1) → lseq (lseq (fL_bears_L209 σ n1 c1 v1 k18 a18_9 a33_11 a33_14 n209 k209 a209_17 a209_19) (fun q => fL_bears_L18 σ n1 c1 v1 k9 n18 (k18 + 1) q.1 q.2)) (fun q => fL_bears_L9 σ n1 c1 v1 n9 (k9 + 1) q.1 q.2) = G → ∀ ls : Array Slot, lv_has ls 22 [(0, .ref (ar 0)), (1, .int (nI n1)), (2, .ref (ar 1)), (3, .ref (ar 3)), (4, .int (nI c1)), (5, .ref (ar 4)), (6, .ref (ar 5)), (7, .ref (ar 7)), (8, .int (nI v1)), (9, .long a18_9), (11, .int (nI a33_11)), (12, .int (nI k9)), (13, .int (nI k18)), (14, .long a33_14), (17, .long a209_17), (19, .long a209_19), (21, .int (nI k209))] → W p l e (headSpec wsL_bears ({ frames := 1, cells := 0, slots := 0, locals := 26 } : Room)).room s m ([.ref (ar 0), .int (nI n1), .ref (ar 1), .ref (ar 3), .int (nI c1), .ref (ar 4), .ref (ar 5), .ref (ar 7), .int (nI v1)] : List Value).toArray below meth c s.heap [] 0 0 (MQ below (xR (some (.long G))) ([.ref (ar 0), .int (nI n1), .ref (ar 1), .ref (ar 3), .int (nI c1), .ref (ar 4), .ref (ar 5), .ref (ar 7), .int (nI v1)] : List Value).toArray s 0 0 (fun _ => False)) (F0 m 209 ls []) := by
                  intro n209
                  induction n209 with
                  | zero =>
                    intro k209 a209_17 a209_19 hkn hG ls hl
                    have hkN : k209 = (a33_11 + 1) := by omega
                    have hG : lseq (lseq ((fL_bears_B287 σ n1 c1 v1 a18_9 a33_11 a209_19 (if a33_14 ≤ a209_17 then a33_14 else a209_17))) (fun q => fL_bears_L18 σ n1 c1 v1 k9 n18 (k18 + 1) q.1 q.2)) (fun q => fL_bears_L9 σ n1 c1 v1 n9 (k9 + 1) q.1 q.2) = G := hG
                    refine lv_iload hx hb dL_bears_209 (lv_at hl 16 rfl) ?_
                    refine lv_iload hx hb dL_bears_211 (lv_at hl 10 rfl) ?_
                    refine lv_icmp_gt (tgt := 275) hx hb dL_bears_213 (by decide) (fun _ => ?_) (fun q => absurd (nI_lt (by omega) (by omega)) q)
                    refine lv_lload hx hb dL_bears_275 (lv_at hl 13 rfl) ?_
                    refine lv_lload hx hb dL_bears_277 (lv_at hl 14 rfl) ?_
                    have B287 : ∀ (w287_14 : Int64), lseq (lseq (fL_bears_B287 σ n1 c1 v1 a18_9 a33_11 a209_19 w287_14) (fun q => fL_bears_L18 σ n1 c1 v1 k9 n18 (k18 + 1) q.1 q.2)) (fun q => fL_bears_L9 σ n1 c1 v1 n9 (k9 + 1) q.1 q.2) = G → ∀ ls : Array Slot, lv_has ls 22 [(0, .ref (ar 0)), (1, .int (nI n1)), (2, .ref (ar 1)), (3, .ref (ar 3)), (4, .int (nI c1)), (5, .ref (ar 4)), (6, .ref (ar 5)), (7, .ref (ar 7)), (8, .int (nI v1)), (9, .long a18_9), (11, .int (nI a33_11)), (12, .int (nI k9)), (13, .int (nI k18)), (14, .long w287_14), (19, .long a209_19)] → W p l e (headSpec wsL_bears ({ frames := 1, cells := 0, slots := 0, locals := 26 } : Room)).room s m ([.ref (ar 0), .int (nI n1), .ref (ar 1), .ref (ar 3), .int (nI c1), .ref (ar 4), .ref (ar 5), .ref (ar 7), .int (nI v1)] : List Value).toArray below meth c s.heap [] 0 0 (MQ below (xR (some (.long G))) ([.ref (ar 0), .int (nI n1), .ref (ar 1), .ref (ar 3), .int (nI c1), .ref (ar 4), .ref (ar 5), .ref (ar 7), .int (nI v1)] : List Value).toArray s 0 0 (fun _ => False)) (F0 m 287 ls []) := by
                      intro w287_14 hG ls hl
                      unfold fL_bears_B287 at hG
                      refine lv_lload hx hb dL_bears_287 (lv_at hl 13 rfl) ?_
                      refine lv_lload hx hb dL_bears_289 (lv_at hl 14 rfl) ?_
                      refine xl_le (tgt := 305) hx hb dL_bears_291 dL_bears_292 (by decide) (fun c_291 => ?_) (fun c_291 => ?_)
                      · skip
                        rw [if_pos c_291] at hG
                        refine lv_iinc (v := (nI (k18 + 1))) (lv' := [(13, .int (nI (k18 + 1))), (0, .ref (ar 0)), (1, .int (nI n1)), (2, .ref (ar 1)), (3, .ref (ar 3)), (4, .int (nI c1)), (5, .ref (ar 4)), (6, .ref (ar 5)), (7, .ref (ar 7)), (8, .int (nI v1)), (9, .long a18_9), (11, .int (nI a33_11)), (12, .int (nI k9)), (14, .long w287_14), (19, .long a209_19)]) hx hb dL_bears_305 hl (k := 12) rfl (nI_succ k18).symm (by decide) rfl (fun ls hl => ?_)
                        refine lv_goto (tgt := 18) hx hb dL_bears_308 (by decide) ?_
                        exact ih18 (k18 + 1) a18_9 a33_11 (by first | omega | (simp only [lSI_K]; omega)) (by first | assumption | omega) hG ls (lv_sub hl [1, 2, 3, 4, 5, 6, 7, 8, 9, 10, 11, 12, 0] rfl)
                      · skip
                        rw [if_neg c_291] at hG
                        refine lv_lload hx hb dL_bears_295 (lv_at hl 9 rfl) ?_
                        refine lv_lload hx hb dL_bears_297 (lv_at hl 13 rfl) ?_
                        refine lv_lload hx hb dL_bears_299 (lv_at hl 14 rfl) ?_
                        refine lv_lsub hx hb dL_bears_301 ?_
                        refine lv_ladd hx hb dL_bears_302 ?_
                        refine lv_lstore (lv' := [(9, .long (a18_9 + (w287_14 - a209_19))), (0, .ref (ar 0)), (1, .int (nI n1)), (2, .ref (ar 1)), (3, .ref (ar 3)), (4, .int (nI c1)), (5, .ref (ar 4)), (6, .ref (ar 5)), (7, .ref (ar 7)), (8, .int (nI v1)), (11, .int (nI a33_11)), (12, .int (nI k9)), (13, .int (nI k18)), (14, .long w287_14), (19, .long a209_19)]) hx hb dL_bears_303 hl (by decide) rfl (fun ls hl => ?_)
                        refine lv_iinc (v := (nI (k18 + 1))) (lv' := [(13, .int (nI (k18 + 1))), (9, .long (a18_9 + (w287_14 - a209_19))), (0, .ref (ar 0)), (1, .int (nI n1)), (2, .ref (ar 1)), (3, .ref (ar 3)), (4, .int (nI c1)), (5, .ref (ar 4)), (6, .ref (ar 5)), (7, .ref (ar 7)), (8, .int (nI v1)), (11, .int (nI a33_11)), (12, .int (nI k9)), (14, .long w287_14), (19, .long a209_19)]) hx hb dL_bears_305 hl (k := 12) rfl (nI_succ k18).symm (by decide) rfl (fun ls hl => ?_)
                        refine lv_goto (tgt := 18) hx hb dL_bears_308 (by decide) ?_
                        exact ih18 (k18 + 1) (a18_9 + (w287_14 - a209_19)) a33_11 (by first | omega | (simp only [lSI_K]; omega)) (by first | assumption | omega) hG ls (lv_sub hl [2, 3, 4, 5, 6, 7, 8, 9, 10, 1, 11, 12, 0] rfl)
                    refine xl_le (tgt := 287) hx hb dL_bears_279 dL_bears_280 (by decide) (fun c_279 => ?_) (fun c_279 => ?_)
                    · skip
                      rw [if_pos c_279] at hG
                      exact B287 a33_14 hG ls (lv_sub hl [0, 1, 2, 3, 4, 5, 6, 7, 8, 9, 10, 11, 12, 13, 15] rfl)
                    · skip
                      rw [if_neg c_279] at hG
                      refine lv_lload hx hb dL_bears_283 (lv_at hl 14 rfl) ?_
                      refine lv_lstore (lv' := [(14, .long a209_17), (0, .ref (ar 0)), (1, .int (nI n1)), (2, .ref (ar 1)), (3, .ref (ar 3)), (4, .int (nI c1)), (5, .ref (ar 4)), (6, .ref (ar 5)), (7, .ref (ar 7)), (8, .int (nI v1)), (9, .long a18_9), (11, .int (nI a33_11)), (12, .int (nI k9)), (13, .int (nI k18)), (17, .long a209_17), (19, .long a209_19), (21, .int (nI k209))]) hx hb dL_bears_285 hl (by decide) rfl (fun ls hl => ?_)
                      exact B287 a209_17 hG ls (lv_sub hl [1, 2, 3, 4, 5, 6, 7, 8, 9, 10, 11, 12, 13, 0, 15] rfl)
                  | succ n209 ih209 =>
                    intro k209 a209_17 a209_19 hkn hG ls hl
                    have hk : k209 < (a33_11 + 1) := by omega
                    have hG : lseq (lseq (lseq (((if 0 ≤ (lI σ 4 (6 * k18 + (2 * k209))) then (lI σ 4 (6 * k18 + (2 * k209) + 1)).toInt64 else a209_17), (if 0 ≤ (lI σ 4 (6 * k18 + (2 * k209))) then (lI σ 4 (6 * k18 + (2 * k209))).toInt64 else a209_19))) (fun q => fL_bears_L209 σ n1 c1 v1 k18 a18_9 a33_11 a33_14 n209 (k209 + 1) q.1 q.2)) (fun q => fL_bears_L18 σ n1 c1 v1 k9 n18 (k18 + 1) q.1 q.2)) (fun q => fL_bears_L9 σ n1 c1 v1 n9 (k9 + 1) q.1 q.2) = G := hG
                    refine lv_iload hx hb dL_bears_209 (lv_at hl 16 rfl) ?_
                    refine lv_iload hx hb dL_bears_211 (lv_at hl 10 rfl) ?_
                    refine lv_icmp_gt (tgt := 275) hx hb dL_bears_213 (by decide) (fun q => absurd q (nI_nlt (by omega) (by omega))) (fun _ => ?_)
                    refine lv_aload hx hb dL_bears_216 (lv_at hl 5 rfl) ?_
                    refine lv_bipush (v := (nI 6)) hx hb dL_bears_218 (by decide) ?_
                    refine lv_iload hx hb dL_bears_220 (lv_at hl 12 rfl) ?_
                    refine lv_imul hx hb dL_bears_222 ?_
                    refine xtop (y := .int (nI (6 * k18))) (congrArg Value.int (pk_mul _ _)) ?_
                    refine lv_iconst (v := (nI 2)) hx hb dL_bears_223 (by decide) ?_
                    refine lv_iload hx hb dL_bears_224 (lv_at hl 16 rfl) ?_
                    refine lv_imul hx hb dL_bears_226 ?_
                    refine xtop (y := .int (nI (2 * k209))) (congrArg Value.int (pk_mul _ _)) ?_
                    refine lv_iadd hx hb dL_bears_227 ?_
                    refine xtop (y := .int (nI (6 * k18 + (2 * k209)))) (congrArg Value.int (nI_add _ _)) ?_
                    refine xiald (i := (6 * k18 + (2 * k209))) (n := 24) hx hb I (hL.2.1 4 24 (by decide)) (by omega) (by decide) dL_bears_228 ?_
                    refine lv_if_ge (tgt := 235) hx hb dL_bears_229 (by decide) (fun c_229 => ?_) (fun c_229 => ?_)
                    · skip
                      rw [if_pos c_229] at hG; rw [if_pos c_229] at hG
                      refine lv_aload hx hb dL_bears_235 (lv_at hl 5 rfl) ?_
                      refine lv_bipush (v := (nI 6)) hx hb dL_bears_237 (by decide) ?_
                      refine lv_iload hx hb dL_bears_239 (lv_at hl 12 rfl) ?_
                      refine lv_imul hx hb dL_bears_241 ?_
                      refine xtop (y := .int (nI (6 * k18))) (congrArg Value.int (pk_mul _ _)) ?_
                      refine lv_iconst (v := (nI 2)) hx hb dL_bears_242 (by decide) ?_
                      refine lv_iload hx hb dL_bears_243 (lv_at hl 16 rfl) ?_
                      refine lv_imul hx hb dL_bears_245 ?_
                      refine xtop (y := .int (nI (2 * k209))) (congrArg Value.int (pk_mul _ _)) ?_
                      refine lv_iadd hx hb dL_bears_246 ?_
                      refine xtop (y := .int (nI (6 * k18 + (2 * k209)))) (congrArg Value.int (nI_add _ _)) ?_
                      refine xiald (i := (6 * k18 + (2 * k209))) (n := 24) hx hb I (hL.2.1 4 24 (by decide)) (by omega) (by decide) dL_bears_247 ?_
                      refine lv_i2l (v := (lI σ 4 (6 * k18 + (2 * k209))).toInt64) hx hb dL_bears_248 rfl ?_
                      refine lv_lstore (lv' := [(19, .long (lI σ 4 (6 * k18 + (2 * k209))).toInt64), (0, .ref (ar 0)), (1, .int (nI n1)), (2, .ref (ar 1)), (3, .ref (ar 3)), (4, .int (nI c1)), (5, .ref (ar 4)), (6, .ref (ar 5)), (7, .ref (ar 7)), (8, .int (nI v1)), (9, .long a18_9), (11, .int (nI a33_11)), (12, .int (nI k9)), (13, .int (nI k18)), (14, .long a33_14), (17, .long a209_17), (21, .int (nI k209))]) hx hb dL_bears_249 hl (by decide) rfl (fun ls hl => ?_)
                      refine lv_aload hx hb dL_bears_251 (lv_at hl 6 rfl) ?_
                      refine lv_bipush (v := (nI 6)) hx hb dL_bears_253 (by decide) ?_
                      refine lv_iload hx hb dL_bears_255 (lv_at hl 13 rfl) ?_
                      refine lv_imul hx hb dL_bears_257 ?_
                      refine xtop (y := .int (nI (6 * k18))) (congrArg Value.int (pk_mul _ _)) ?_
                      refine lv_iconst (v := (nI 2)) hx hb dL_bears_258 (by decide) ?_
                      refine lv_iload hx hb dL_bears_259 (lv_at hl 16 rfl) ?_
                      refine lv_imul hx hb dL_bears_261 ?_
                      refine xtop (y := .int (nI (2 * k209))) (congrArg Value.int (pk_mul _ _)) ?_
                      refine lv_iadd hx hb dL_bears_262 ?_
                      refine xtop (y := .int (nI (6 * k18 + (2 * k209)))) (congrArg Value.int (nI_add _ _)) ?_
                      refine lv_iconst (v := (nI 1)) hx hb dL_bears_263 (by decide) ?_
                      refine lv_iadd hx hb dL_bears_264 ?_
                      refine xtop (y := .int (nI (6 * k18 + (2 * k209) + 1))) (congrArg Value.int (nI_add _ _)) ?_
                      refine xiald (i := (6 * k18 + (2 * k209) + 1)) (n := 24) hx hb I (hL.2.1 4 24 (by decide)) (by omega) (by decide) dL_bears_265 ?_
                      refine lv_i2l (v := (lI σ 4 (6 * k18 + (2 * k209) + 1)).toInt64) hx hb dL_bears_266 rfl ?_
                      refine lv_lstore (lv' := [(17, .long (lI σ 4 (6 * k18 + (2 * k209) + 1)).toInt64), (19, .long (lI σ 4 (6 * k18 + (2 * k209))).toInt64), (0, .ref (ar 0)), (1, .int (nI n1)), (2, .ref (ar 1)), (3, .ref (ar 3)), (4, .int (nI c1)), (5, .ref (ar 4)), (6, .ref (ar 5)), (7, .ref (ar 7)), (8, .int (nI v1)), (9, .long a18_9), (11, .int (nI a33_11)), (12, .int (nI k9)), (13, .int (nI k18)), (14, .long a33_14), (21, .int (nI k209))]) hx hb dL_bears_267 hl (by decide) rfl (fun ls hl => ?_)
                      refine lv_iinc (v := (nI (k209 + 1))) (lv' := [(21, .int (nI (k209 + 1))), (17, .long (lI σ 4 (6 * k18 + (2 * k209) + 1)).toInt64), (19, .long (lI σ 4 (6 * k18 + (2 * k209))).toInt64), (0, .ref (ar 0)), (1, .int (nI n1)), (2, .ref (ar 1)), (3, .ref (ar 3)), (4, .int (nI c1)), (5, .ref (ar 4)), (6, .ref (ar 5)), (7, .ref (ar 7)), (8, .int (nI v1)), (9, .long a18_9), (11, .int (nI a33_11)), (12, .int (nI k9)), (13, .int (nI k18)), (14, .long a33_14)]) hx hb dL_bears_269 hl (k := 16) rfl (nI_succ k209).symm (by decide) rfl (fun ls hl => ?_)
                      refine lv_goto (tgt := 209) hx hb dL_bears_272 (by decide) ?_
                      exact ih209 (k209 + 1) ((lI σ 4 (6 * k18 + (2 * k209) + 1)).toInt64) ((lI σ 4 (6 * k18 + (2 * k209))).toInt64) (by first | omega | (simp only [lSI_K]; omega)) hG ls (lv_sub hl [3, 4, 5, 6, 7, 8, 9, 10, 11, 12, 13, 14, 15, 16, 1, 2, 0] rfl)
                    · skip
                      rw [if_neg c_229] at hG; rw [if_neg c_229] at hG
                      refine lv_goto (tgt := 269) hx hb dL_bears_232 (by decide) ?_
                      refine lv_iinc (v := (nI (k209 + 1))) (lv' := [(21, .int (nI (k209 + 1))), (0, .ref (ar 0)), (1, .int (nI n1)), (2, .ref (ar 1)), (3, .ref (ar 3)), (4, .int (nI c1)), (5, .ref (ar 4)), (6, .ref (ar 5)), (7, .ref (ar 7)), (8, .int (nI v1)), (9, .long a18_9), (11, .int (nI a33_11)), (12, .int (nI k9)), (13, .int (nI k18)), (14, .long a33_14), (17, .long a209_17), (19, .long a209_19)]) hx hb dL_bears_269 hl (k := 16) rfl (nI_succ k209).symm (by decide) rfl (fun ls hl => ?_)
                      refine lv_goto (tgt := 209) hx hb dL_bears_272 (by decide) ?_
                      exact ih209 (k209 + 1) a209_17 a209_19 (by first | omega | (simp only [lSI_K]; omega)) hG ls (lv_sub hl [1, 2, 3, 4, 5, 6, 7, 8, 9, 10, 11, 12, 13, 14, 15, 16, 0] rfl)
                exact L209 (a33_11 + 1) 0 (10000000 : Int64) (0 : Int64) (by omega) hG ls (lv_sub hl [3, 4, 5, 6, 7, 8, 9, 10, 11, 12, 13, 14, 15, 16, 2, 1, 0] rfl)
              · skip
                have c_192 : a33_16 = 0 := (nI_eq (a := a33_16) (b := 0) (by omega) (by omega)).mp c_192
                rw [if_pos c_192] at hG
                refine lv_goto (tgt := 305) hx hb dL_bears_195 (by decide) ?_
                refine lv_iinc (v := (nI (k18 + 1))) (lv' := [(13, .int (nI (k18 + 1))), (0, .ref (ar 0)), (1, .int (nI n1)), (2, .ref (ar 1)), (3, .ref (ar 3)), (4, .int (nI c1)), (5, .ref (ar 4)), (6, .ref (ar 5)), (7, .ref (ar 7)), (8, .int (nI v1)), (9, .long a18_9), (11, .int (nI a33_11)), (12, .int (nI k9)), (14, .long a33_14), (16, .int (nI a33_16)), (17, .int (nI k33))]) hx hb dL_bears_305 hl (k := 12) rfl (nI_succ k18).symm (by decide) rfl (fun ls hl => ?_)
                refine lv_goto (tgt := 18) hx hb dL_bears_308 (by decide) ?_
                exact ih18 (k18 + 1) a18_9 a33_11 (by first | omega | (simp only [lSI_K]; omega)) (by first | assumption | omega) hG ls (lv_sub hl [1, 2, 3, 4, 5, 6, 7, 8, 9, 10, 11, 12, 0] rfl)
            | succ n33 ih33 =>
              intro k33 a33_11 a33_14 a33_16 hkn i33_0 i33_1 hG ls hl
              have hk : k33 < c1 := by omega
              have hG : lseq (lseq (lseq ((if lK σ 3 (6 * k33 + 4) = v1 then (if lK σ 3 (6 * k33) = k9 then (if lK σ 3 (6 * k33 + 1) = k18 then (if (fL_covered σ n1 k33) = 0 then ((lK σ 3 (6 * k33 + 2)) / 100, a33_14, a33_16) else (if 0 < (lK σ 3 (6 * k33 + 5)) &&& 2 then (fL_bears_B156 σ n1 c1 v1 k33 a33_14) else (if 5000 * (lK σ 1 (8 + k9)) ≤ lK σ 3 (6 * k33 + 3) then ((lK σ 3 (6 * k33 + 2)) / 100, (a33_14 + (lN (5000 * (lK σ 1 (8 + k9))))), 1) else (fL_bears_B156 σ n1 c1 v1 k33 a33_14)))) else ((lK σ 3 (6 * k33 + 2)) / 100, a33_14, a33_16)) else ((lK σ 3 (6 * k33 + 2)) / 100, a33_14, a33_16)) else (a33_11, a33_14, a33_16))) (fun q => fL_bears_L33 σ n1 c1 v1 k9 k18 a18_9 n33 (k33 + 1) q.1 q.2.1 q.2.2)) (fun q => fL_bears_L18 σ n1 c1 v1 k9 n18 (k18 + 1) q.1 q.2)) (fun q => fL_bears_L9 σ n1 c1 v1 n9 (k9 + 1) q.1 q.2) = G := hG
              refine lv_iload hx hb dL_bears_33 (lv_at hl 15 rfl) ?_
              refine lv_iload hx hb dL_bears_35 (lv_at hl 4 rfl) ?_
              refine lv_icmp_ge (tgt := 190) hx hb dL_bears_37 (by decide) (fun q => absurd q (nI_ge hk (by omega))) (fun _ => ?_)
              refine lv_aload_n hx hb dL_bears_40 rfl (lv_at hl 3 rfl) ?_
              refine lv_bipush (v := (nI 6)) hx hb dL_bears_41 (by decide) ?_
              refine lv_iload hx hb dL_bears_43 (lv_at hl 15 rfl) ?_
              refine lv_imul hx hb dL_bears_45 ?_
              refine xtop (y := .int (nI (6 * k33))) (congrArg Value.int (pk_mul _ _)) ?_
              refine lv_iconst (v := (nI 4)) hx hb dL_bears_46 (by decide) ?_
              refine lv_iadd hx hb dL_bears_47 ?_
              refine xtop (y := .int (nI (6 * k33 + 4))) (congrArg Value.int (nI_add _ _)) ?_
              refine xiald (i := (6 * k33 + 4)) (n := 64) hx hb I (hL.1 3 64 (by decide)) (by omega) (by decide) dL_bears_48 ?_
              have g48 : lK σ 3 (6 * k33 + 4) < 1073741824 := hW.2.2.2.2.2.1 3 (6 * k33 + 4)
              refine lv_iload hx hb dL_bears_49 (lv_at hl 8 rfl) ?_
              refine lv_icmp_eq (tgt := 57) hx hb dL_bears_51 (by decide) (fun c_51 => ?_) (fun c_51 => ?_)
              · skip
                have c_51 : lK σ 3 (6 * k33 + 4) = v1 := (nI_eq (a := (lK σ 3 (6 * k33 + 4))) (b := v1) (by omega) (by omega)).mp c_51
                rw [if_pos c_51] at hG
                refine lv_aload_n hx hb dL_bears_57 rfl (lv_at hl 3 rfl) ?_
                refine lv_bipush (v := (nI 6)) hx hb dL_bears_58 (by decide) ?_
                refine lv_iload hx hb dL_bears_60 (lv_at hl 15 rfl) ?_
                refine lv_imul hx hb dL_bears_62 ?_
                refine xtop (y := .int (nI (6 * k33))) (congrArg Value.int (pk_mul _ _)) ?_
                refine lv_iconst (v := (nI 2)) hx hb dL_bears_63 (by decide) ?_
                refine lv_iadd hx hb dL_bears_64 ?_
                refine xtop (y := .int (nI (6 * k33 + 2))) (congrArg Value.int (nI_add _ _)) ?_
                refine xiald (i := (6 * k33 + 2)) (n := 64) hx hb I (hL.1 3 64 (by decide)) (by omega) (by decide) dL_bears_65 ?_
                have g65 : lK σ 3 (6 * k33 + 2) < 1073741824 := hW.2.2.2.2.2.1 3 (6 * k33 + 2)
                have b65 : lK σ 3 (6 * k33 + 2) < 300 := hW.2.2.2.1 k33
                refine lv_bipush (v := (nI 100)) hx hb dL_bears_66 (by decide) ?_
                refine lv_idiv hx hb dL_bears_68 (by decide) ?_
                refine xtop (y := .int (nI ((lK σ 3 (6 * k33 + 2)) / 100))) (congrArg Value.int (pk_div (by omega) (by decide) (by decide))) ?_
                refine lv_istore (lv' := [(11, .int (nI ((lK σ 3 (6 * k33 + 2)) / 100))), (0, .ref (ar 0)), (1, .int (nI n1)), (2, .ref (ar 1)), (3, .ref (ar 3)), (4, .int (nI c1)), (5, .ref (ar 4)), (6, .ref (ar 5)), (7, .ref (ar 7)), (8, .int (nI v1)), (9, .long a18_9), (12, .int (nI k9)), (13, .int (nI k18)), (14, .long a33_14), (16, .int (nI a33_16)), (17, .int (nI k33))]) hx hb dL_bears_69 hl (by decide) rfl (fun ls hl => ?_)
                refine lv_aload_n hx hb dL_bears_71 rfl (lv_at hl 4 rfl) ?_
                refine lv_bipush (v := (nI 6)) hx hb dL_bears_72 (by decide) ?_
                refine lv_iload hx hb dL_bears_74 (lv_at hl 15 rfl) ?_
                refine lv_imul hx hb dL_bears_76 ?_
                refine xtop (y := .int (nI (6 * k33))) (congrArg Value.int (pk_mul _ _)) ?_
                refine xiald (i := (6 * k33)) (n := 64) hx hb I (hL.1 3 64 (by decide)) (by omega) (by decide) dL_bears_77 ?_
                have g77 : lK σ 3 (6 * k33) < 1073741824 := hW.2.2.2.2.2.1 3 (6 * k33)
                have b77 : lK σ 3 (6 * k33) < 5 := hW.2.2.1 k33
                refine lv_iload hx hb dL_bears_78 (lv_at hl 11 rfl) ?_
                refine lv_icmp_ne (tgt := 184) hx hb dL_bears_80 (by decide) (fun c_80 => ?_) (fun c_80 => ?_)
                · skip
                  have c_80 : ¬ lK σ 3 (6 * k33) = k9 := fun q => c_80 ((nI_eq (a := (lK σ 3 (6 * k33))) (b := k9) (by omega) (by omega)).mpr q)
                  rw [if_neg c_80] at hG
                  refine lv_iinc (v := (nI (k33 + 1))) (lv' := [(17, .int (nI (k33 + 1))), (11, .int (nI ((lK σ 3 (6 * k33 + 2)) / 100))), (0, .ref (ar 0)), (1, .int (nI n1)), (2, .ref (ar 1)), (3, .ref (ar 3)), (4, .int (nI c1)), (5, .ref (ar 4)), (6, .ref (ar 5)), (7, .ref (ar 7)), (8, .int (nI v1)), (9, .long a18_9), (12, .int (nI k9)), (13, .int (nI k18)), (14, .long a33_14), (16, .int (nI a33_16))]) hx hb dL_bears_184 hl (k := 15) rfl (nI_succ k33).symm (by decide) rfl (fun ls hl => ?_)
                  refine lv_goto (tgt := 33) hx hb dL_bears_187 (by decide) ?_
                  exact ih33 (k33 + 1) ((lK σ 3 (6 * k33 + 2)) / 100) a33_14 a33_16 (by first | omega | (simp only [lSI_K]; omega)) (by first | assumption | omega) (by first | assumption | omega) hG ls (lv_sub hl [2, 3, 4, 5, 6, 7, 8, 9, 10, 11, 1, 12, 13, 14, 15, 0] rfl)
                · skip
                  have c_80 : lK σ 3 (6 * k33) = k9 := (nI_eq (a := (lK σ 3 (6 * k33))) (b := k9) (by omega) (by omega)).mp c_80
                  rw [if_pos c_80] at hG
                  refine lv_aload_n hx hb dL_bears_83 rfl (lv_at hl 4 rfl) ?_
                  refine lv_bipush (v := (nI 6)) hx hb dL_bears_84 (by decide) ?_
                  refine lv_iload hx hb dL_bears_86 (lv_at hl 15 rfl) ?_
                  refine lv_imul hx hb dL_bears_88 ?_
                  refine xtop (y := .int (nI (6 * k33))) (congrArg Value.int (pk_mul _ _)) ?_
                  refine lv_iconst (v := (nI 1)) hx hb dL_bears_89 (by decide) ?_
                  refine lv_iadd hx hb dL_bears_90 ?_
                  refine xtop (y := .int (nI (6 * k33 + 1))) (congrArg Value.int (nI_add _ _)) ?_
                  refine xiald (i := (6 * k33 + 1)) (n := 64) hx hb I (hL.1 3 64 (by decide)) (by omega) (by decide) dL_bears_91 ?_
                  have g91 : lK σ 3 (6 * k33 + 1) < 1073741824 := hW.2.2.2.2.2.1 3 (6 * k33 + 1)
                  refine lv_iload hx hb dL_bears_92 (lv_at hl 12 rfl) ?_
                  refine lv_icmp_ne (tgt := 184) hx hb dL_bears_94 (by decide) (fun c_94 => ?_) (fun c_94 => ?_)
                  · skip
                    have c_94 : ¬ lK σ 3 (6 * k33 + 1) = k18 := fun q => c_94 ((nI_eq (a := (lK σ 3 (6 * k33 + 1))) (b := k18) (by omega) (by omega)).mpr q)
                    rw [if_neg c_94] at hG
                    refine lv_iinc (v := (nI (k33 + 1))) (lv' := [(17, .int (nI (k33 + 1))), (11, .int (nI ((lK σ 3 (6 * k33 + 2)) / 100))), (0, .ref (ar 0)), (1, .int (nI n1)), (2, .ref (ar 1)), (3, .ref (ar 3)), (4, .int (nI c1)), (5, .ref (ar 4)), (6, .ref (ar 5)), (7, .ref (ar 7)), (8, .int (nI v1)), (9, .long a18_9), (12, .int (nI k9)), (13, .int (nI k18)), (14, .long a33_14), (16, .int (nI a33_16))]) hx hb dL_bears_184 hl (k := 15) rfl (nI_succ k33).symm (by decide) rfl (fun ls hl => ?_)
                    refine lv_goto (tgt := 33) hx hb dL_bears_187 (by decide) ?_
                    exact ih33 (k33 + 1) ((lK σ 3 (6 * k33 + 2)) / 100) a33_14 a33_16 (by first | omega | (simp only [lSI_K]; omega)) (by first | assumption | omega) (by first | assumption | omega) hG ls (lv_sub hl [2, 3, 4, 5, 6, 7, 8, 9, 10, 11, 1, 12, 13, 14, 15, 0] rfl)
                  · skip
                    have c_94 : lK σ 3 (6 * k33 + 1) = k18 := (nI_eq (a := (lK σ 3 (6 * k33 + 1))) (b := k18) (by omega) (by omega)).mp c_94
                    rw [if_pos c_94] at hG
                    refine lv_aload_n hx hb dL_bears_97 rfl (lv_at hl 1 rfl) ?_
                    refine lv_iload_n hx hb dL_bears_98 rfl (lv_at hl 2 rfl) ?_
                    refine lv_aload_n hx hb dL_bears_99 rfl (lv_at hl 3 rfl) ?_
                    refine lv_aload_n hx hb dL_bears_100 rfl (lv_at hl 4 rfl) ?_
                    refine lv_aload hx hb dL_bears_101 (lv_at hl 8 rfl) ?_
                    refine lv_iload hx hb dL_bears_103 (lv_at hl 15 rfl) ?_
                    refine xcsR (As := [.ref (ar 0), .int (nI n1), .ref (ar 1), .ref (ar 3), .ref (ar 7), .int (nI k33)]) (rest := []) (v := some (.int (fL_covered σ n1 k33))) ⟨hx, hb, hml, hown, hts⟩ (mL_covered l lo D E h σ ar hL hW n1 k33 (by first | assumption | omega) (by first | assumption | omega)) (va_cwS 6 hts gL_bears_L_covered rfl rfl rfl (by decide +kernel) ⟨Nat.le_of_ble_eq_true rfl, Nat.le_of_ble_eq_true rfl⟩) I rfl hl.1 rfl (Nat.le_of_ble_eq_true rfl) dL_bears_105 ⟨Nat.le_of_ble_eq_true rfl, Nat.le_of_ble_eq_true rfl⟩ ?_
                    refine W.eq (g2 := F0 m 108 ls [.int (fL_covered σ n1 k33)]) rfl ?_
                    refine lv_if_ne (tgt := 114) hx hb dL_bears_108 (by decide) (fun c_108 => ?_) (fun c_108 => ?_)
                    · skip
                      rw [if_neg c_108] at hG
                      refine lv_iconst (v := (nI 1)) hx hb dL_bears_114 (by decide) ?_
                      refine lv_istore (lv' := [(16, .int (nI 1)), (11, .int (nI ((lK σ 3 (6 * k33 + 2)) / 100))), (0, .ref (ar 0)), (1, .int (nI n1)), (2, .ref (ar 1)), (3, .ref (ar 3)), (4, .int (nI c1)), (5, .ref (ar 4)), (6, .ref (ar 5)), (7, .ref (ar 7)), (8, .int (nI v1)), (9, .long a18_9), (12, .int (nI k9)), (13, .int (nI k18)), (14, .long a33_14), (17, .int (nI k33))]) hx hb dL_bears_115 hl (by decide) rfl (fun ls hl => ?_)
                      refine lv_lload hx hb dL_bears_117 (lv_at hl 14 rfl) ?_
                      refine lv_aload_n hx hb dL_bears_119 rfl (lv_at hl 5 rfl) ?_
                      refine lv_bipush (v := (nI 6)) hx hb dL_bears_120 (by decide) ?_
                      refine lv_iload hx hb dL_bears_122 (lv_at hl 15 rfl) ?_
                      refine lv_imul hx hb dL_bears_124 ?_
                      refine xtop (y := .int (nI (6 * k33))) (congrArg Value.int (pk_mul _ _)) ?_
                      refine lv_iconst (v := (nI 5)) hx hb dL_bears_125 (by decide) ?_
                      refine lv_iadd hx hb dL_bears_126 ?_
                      refine xtop (y := .int (nI (6 * k33 + 5))) (congrArg Value.int (nI_add _ _)) ?_
                      refine xiald (i := (6 * k33 + 5)) (n := 64) hx hb I (hL.1 3 64 (by decide)) (by omega) (by decide) dL_bears_127 ?_
                      have g127 : lK σ 3 (6 * k33 + 5) < 1073741824 := hW.2.2.2.2.2.1 3 (6 * k33 + 5)
                      refine lv_iconst (v := (nI 2)) hx hb dL_bears_128 (by decide) ?_
                      refine lv_iand hx hb dL_bears_129 ?_
                      refine xtop (y := .int (nI ((lK σ 3 (6 * k33 + 5)) &&& 2))) (congrArg Value.int nI_and) ?_
                      have h129 : (lK σ 3 (6 * k33 + 5)) &&& 2 ≤ 2 := Nat.and_le_right
                      have B156 : lseq (lseq (lseq (fL_bears_B156 σ n1 c1 v1 k33 a33_14) (fun q => fL_bears_L33 σ n1 c1 v1 k9 k18 a18_9 n33 (k33 + 1) q.1 q.2.1 q.2.2)) (fun q => fL_bears_L18 σ n1 c1 v1 k9 n18 (k18 + 1) q.1 q.2)) (fun q => fL_bears_L9 σ n1 c1 v1 n9 (k9 + 1) q.1 q.2) = G → ∀ ls : Array Slot, lv_has ls 22 [(0, .ref (ar 0)), (1, .int (nI n1)), (2, .ref (ar 1)), (3, .ref (ar 3)), (4, .int (nI c1)), (5, .ref (ar 4)), (6, .ref (ar 5)), (7, .ref (ar 7)), (8, .int (nI v1)), (9, .long a18_9), (11, .int (nI ((lK σ 3 (6 * k33 + 2)) / 100))), (12, .int (nI k9)), (13, .int (nI k18)), (16, .int (nI 1)), (17, .int (nI k33))] → W p l e (headSpec wsL_bears ({ frames := 1, cells := 0, slots := 0, locals := 26 } : Room)).room s m ([.ref (ar 0), .int (nI n1), .ref (ar 1), .ref (ar 3), .int (nI c1), .ref (ar 4), .ref (ar 5), .ref (ar 7), .int (nI v1)] : List Value).toArray below meth c s.heap [] 0 0 (MQ below (xR (some (.long G))) ([.ref (ar 0), .int (nI n1), .ref (ar 1), .ref (ar 3), .int (nI c1), .ref (ar 4), .ref (ar 5), .ref (ar 7), .int (nI v1)] : List Value).toArray s 0 0 (fun _ => False)) (F0 m 156 ls [.long a33_14]) := by
                        intro hG ls hl
                        unfold fL_bears_B156 at hG
                        refine lv_aload_n hx hb dL_bears_156 rfl (lv_at hl 3 rfl) ?_
                        refine lv_bipush (v := (nI 6)) hx hb dL_bears_157 (by decide) ?_
                        refine lv_iload hx hb dL_bears_159 (lv_at hl 14 rfl) ?_
                        refine lv_imul hx hb dL_bears_161 ?_
                        refine xtop (y := .int (nI (6 * k33))) (congrArg Value.int (pk_mul _ _)) ?_
                        refine lv_iconst (v := (nI 3)) hx hb dL_bears_162 (by decide) ?_
                        refine lv_iadd hx hb dL_bears_163 ?_
                        refine xtop (y := .int (nI (6 * k33 + 3))) (congrArg Value.int (nI_add _ _)) ?_
                        refine xiald (i := (6 * k33 + 3)) (n := 64) hx hb I (hL.1 3 64 (by decide)) (by omega) (by decide) dL_bears_164 ?_
                        have g164 : lK σ 3 (6 * k33 + 3) < 1073741824 := hW.2.2.2.2.2.1 3 (6 * k33 + 3)
                        refine lv_i2l (v := (lN (lK σ 3 (6 * k33 + 3)))) hx hb dL_bears_165 (nI_l (by omega)) ?_
                        refine lv_goto (tgt := 181) hx hb dL_bears_166 (by decide) ?_
                        refine lv_ladd hx hb dL_bears_181 ?_
                        refine lv_lstore (lv' := [(14, .long (a33_14 + (lN (lK σ 3 (6 * k33 + 3))))), (0, .ref (ar 0)), (1, .int (nI n1)), (2, .ref (ar 1)), (3, .ref (ar 3)), (4, .int (nI c1)), (5, .ref (ar 4)), (6, .ref (ar 5)), (7, .ref (ar 7)), (8, .int (nI v1)), (9, .long a18_9), (11, .int (nI ((lK σ 3 (6 * k33 + 2)) / 100))), (12, .int (nI k9)), (13, .int (nI k18)), (16, .int (nI 1)), (17, .int (nI k33))]) hx hb dL_bears_182 hl (by decide) rfl (fun ls hl => ?_)
                        refine lv_iinc (v := (nI (k33 + 1))) (lv' := [(17, .int (nI (k33 + 1))), (14, .long (a33_14 + (lN (lK σ 3 (6 * k33 + 3))))), (0, .ref (ar 0)), (1, .int (nI n1)), (2, .ref (ar 1)), (3, .ref (ar 3)), (4, .int (nI c1)), (5, .ref (ar 4)), (6, .ref (ar 5)), (7, .ref (ar 7)), (8, .int (nI v1)), (9, .long a18_9), (11, .int (nI ((lK σ 3 (6 * k33 + 2)) / 100))), (12, .int (nI k9)), (13, .int (nI k18)), (16, .int (nI 1))]) hx hb dL_bears_184 hl (k := 15) rfl (nI_succ k33).symm (by decide) rfl (fun ls hl => ?_)
                        refine lv_goto (tgt := 33) hx hb dL_bears_187 (by decide) ?_
                        exact ih33 (k33 + 1) ((lK σ 3 (6 * k33 + 2)) / 100) (a33_14 + (lN (lK σ 3 (6 * k33 + 3)))) 1 (by first | omega | (simp only [lSI_K]; omega)) (by first | assumption | omega) (by first | assumption | omega) hG ls (lv_sub hl [2, 3, 4, 5, 6, 7, 8, 9, 10, 11, 12, 13, 14, 1, 15, 0] rfl)
                      refine lv_if_gt (tgt := 156) hx hb dL_bears_130 (by decide) (fun c_130 => ?_) (fun c_130 => ?_)
                      · skip
                        have c_130 : 0 < (lK σ 3 (6 * k33 + 5)) &&& 2 := (nI_ltI (a := 0) (b := ((lK σ 3 (6 * k33 + 5)) &&& 2)) (by omega) (by omega)).mp c_130
                        rw [if_pos c_130] at hG
                        exact B156 hG ls (lv_sub hl [2, 3, 4, 5, 6, 7, 8, 9, 10, 11, 1, 12, 13, 0, 15] rfl)
                      · skip
                        have c_130 : ¬ 0 < (lK σ 3 (6 * k33 + 5)) &&& 2 := fun q => c_130 ((nI_ltI (a := 0) (b := ((lK σ 3 (6 * k33 + 5)) &&& 2)) (by omega) (by omega)).mpr q)
                        rw [if_neg c_130] at hG
                        refine lv_aload_n hx hb dL_bears_133 rfl (lv_at hl 5 rfl) ?_
                        refine lv_bipush (v := (nI 6)) hx hb dL_bears_134 (by decide) ?_
                        refine lv_iload hx hb dL_bears_136 (lv_at hl 15 rfl) ?_
                        refine lv_imul hx hb dL_bears_138 ?_
                        refine xtop (y := .int (nI (6 * k33))) (congrArg Value.int (pk_mul _ _)) ?_
                        refine lv_iconst (v := (nI 3)) hx hb dL_bears_139 (by decide) ?_
                        refine lv_iadd hx hb dL_bears_140 ?_
                        refine xtop (y := .int (nI (6 * k33 + 3))) (congrArg Value.int (nI_add _ _)) ?_
                        refine xiald (i := (6 * k33 + 3)) (n := 64) hx hb I (hL.1 3 64 (by decide)) (by omega) (by decide) dL_bears_141 ?_
                        have g141 : lK σ 3 (6 * k33 + 3) < 1073741824 := hW.2.2.2.2.2.1 3 (6 * k33 + 3)
                        refine lv_sipush (v := (nI 5000)) hx hb dL_bears_142 (by decide) ?_
                        refine lv_aload_n hx hb dL_bears_145 rfl (lv_at hl 4 rfl) ?_
                        refine lv_bipush (v := (nI 8)) hx hb dL_bears_146 (by decide) ?_
                        refine lv_iload hx hb dL_bears_148 (lv_at hl 12 rfl) ?_
                        refine lv_iadd hx hb dL_bears_150 ?_
                        refine xtop (y := .int (nI (8 + k9))) (congrArg Value.int (nI_add _ _)) ?_
                        refine xiald (i := (8 + k9)) (n := 16) hx hb I (hL.1 1 16 (by decide)) (by omega) (by decide) dL_bears_151 ?_
                        have g151 : lK σ 1 (8 + k9) < 1073741824 := hW.2.2.2.2.2.1 1 (8 + k9)
                        have b151 : lK σ 1 (8 + k9) ≤ 999 := hW.2.2.2.2.2.2 k9
                        refine lv_imul hx hb dL_bears_152 ?_
                        refine xtop (y := .int (nI (5000 * (lK σ 1 (8 + k9))))) (congrArg Value.int (pk_mul _ _)) ?_
                        refine lv_icmp_ge (tgt := 169) hx hb dL_bears_153 (by decide) (fun c_153 => ?_) (fun c_153 => ?_)
                        · skip
                          have c_153 : 5000 * (lK σ 1 (8 + k9)) ≤ lK σ 3 (6 * k33 + 3) := (nI_leI (a := (5000 * (lK σ 1 (8 + k9)))) (b := (lK σ 3 (6 * k33 + 3))) (by omega) (by omega)).mp c_153
                          rw [if_pos c_153] at hG
                          refine lv_sipush (v := (nI 5000)) hx hb dL_bears_169 (by decide) ?_
                          refine lv_aload_n hx hb dL_bears_172 rfl (lv_at hl 4 rfl) ?_
                          refine lv_bipush (v := (nI 8)) hx hb dL_bears_173 (by decide) ?_
                          refine lv_iload hx hb dL_bears_175 (lv_at hl 12 rfl) ?_
                          refine lv_iadd hx hb dL_bears_177 ?_
                          refine xtop (y := .int (nI (8 + k9))) (congrArg Value.int (nI_add _ _)) ?_
                          refine xiald (i := (8 + k9)) (n := 16) hx hb I (hL.1 1 16 (by decide)) (by omega) (by decide) dL_bears_178 ?_
                          have g178 : lK σ 1 (8 + k9) < 1073741824 := hW.2.2.2.2.2.1 1 (8 + k9)
                          have b178 : lK σ 1 (8 + k9) ≤ 999 := hW.2.2.2.2.2.2 k9
                          refine lv_imul hx hb dL_bears_179 ?_
                          refine xtop (y := .int (nI (5000 * (lK σ 1 (8 + k9))))) (congrArg Value.int (pk_mul _ _)) ?_
                          refine lv_i2l (v := (lN (5000 * (lK σ 1 (8 + k9))))) hx hb dL_bears_180 (nI_l (by omega)) ?_
                          refine lv_ladd hx hb dL_bears_181 ?_
                          refine lv_lstore (lv' := [(14, .long (a33_14 + (lN (5000 * (lK σ 1 (8 + k9)))))), (16, .int (nI 1)), (11, .int (nI ((lK σ 3 (6 * k33 + 2)) / 100))), (0, .ref (ar 0)), (1, .int (nI n1)), (2, .ref (ar 1)), (3, .ref (ar 3)), (4, .int (nI c1)), (5, .ref (ar 4)), (6, .ref (ar 5)), (7, .ref (ar 7)), (8, .int (nI v1)), (9, .long a18_9), (12, .int (nI k9)), (13, .int (nI k18)), (17, .int (nI k33))]) hx hb dL_bears_182 hl (by decide) rfl (fun ls hl => ?_)
                          refine lv_iinc (v := (nI (k33 + 1))) (lv' := [(17, .int (nI (k33 + 1))), (14, .long (a33_14 + (lN (5000 * (lK σ 1 (8 + k9)))))), (16, .int (nI 1)), (11, .int (nI ((lK σ 3 (6 * k33 + 2)) / 100))), (0, .ref (ar 0)), (1, .int (nI n1)), (2, .ref (ar 1)), (3, .ref (ar 3)), (4, .int (nI c1)), (5, .ref (ar 4)), (6, .ref (ar 5)), (7, .ref (ar 7)), (8, .int (nI v1)), (9, .long a18_9), (12, .int (nI k9)), (13, .int (nI k18))]) hx hb dL_bears_184 hl (k := 15) rfl (nI_succ k33).symm (by decide) rfl (fun ls hl => ?_)
                          refine lv_goto (tgt := 33) hx hb dL_bears_187 (by decide) ?_
                          exact ih33 (k33 + 1) ((lK σ 3 (6 * k33 + 2)) / 100) (a33_14 + (lN (5000 * (lK σ 1 (8 + k9))))) 1 (by first | omega | (simp only [lSI_K]; omega)) (by first | assumption | omega) (by first | assumption | omega) hG ls (lv_sub hl [4, 5, 6, 7, 8, 9, 10, 11, 12, 13, 3, 14, 15, 1, 2, 0] rfl)
                        · skip
                          have c_153 : ¬ 5000 * (lK σ 1 (8 + k9)) ≤ lK σ 3 (6 * k33 + 3) := fun q => c_153 ((nI_leI (a := (5000 * (lK σ 1 (8 + k9)))) (b := (lK σ 3 (6 * k33 + 3))) (by omega) (by omega)).mpr q)
                          rw [if_neg c_153] at hG
                          exact B156 hG ls (lv_sub hl [2, 3, 4, 5, 6, 7, 8, 9, 10, 11, 1, 12, 13, 0, 15] rfl)
                    · skip
                      rw [if_pos c_108] at hG
                      refine lv_goto (tgt := 184) hx hb dL_bears_111 (by decide) ?_
                      refine lv_iinc (v := (nI (k33 + 1))) (lv' := [(17, .int (nI (k33 + 1))), (11, .int (nI ((lK σ 3 (6 * k33 + 2)) / 100))), (0, .ref (ar 0)), (1, .int (nI n1)), (2, .ref (ar 1)), (3, .ref (ar 3)), (4, .int (nI c1)), (5, .ref (ar 4)), (6, .ref (ar 5)), (7, .ref (ar 7)), (8, .int (nI v1)), (9, .long a18_9), (12, .int (nI k9)), (13, .int (nI k18)), (14, .long a33_14), (16, .int (nI a33_16))]) hx hb dL_bears_184 hl (k := 15) rfl (nI_succ k33).symm (by decide) rfl (fun ls hl => ?_)
                      refine lv_goto (tgt := 33) hx hb dL_bears_187 (by decide) ?_
                      exact ih33 (k33 + 1) ((lK σ 3 (6 * k33 + 2)) / 100) a33_14 a33_16 (by first | omega | (simp only [lSI_K]; omega)) (by first | assumption | omega) (by first | assumption | omega) hG ls (lv_sub hl [2, 3, 4, 5, 6, 7, 8, 9, 10, 11, 1, 12, 13, 14, 15, 0] rfl)
              · skip
                have c_51 : ¬ lK σ 3 (6 * k33 + 4) = v1 := fun q => c_51 ((nI_eq (a := (lK σ 3 (6 * k33 + 4))) (b := v1) (by omega) (by omega)).mpr q)
                rw [if_neg c_51] at hG
                refine lv_goto (tgt := 184) hx hb dL_bears_54 (by decide) ?_
                refine lv_iinc (v := (nI (k33 + 1))) (lv' := [(17, .int (nI (k33 + 1))), (0, .ref (ar 0)), (1, .int (nI n1)), (2, .ref (ar 1)), (3, .ref (ar 3)), (4, .int (nI c1)), (5, .ref (ar 4)), (6, .ref (ar 5)), (7, .ref (ar 7)), (8, .int (nI v1)), (9, .long a18_9), (11, .int (nI a33_11)), (12, .int (nI k9)), (13, .int (nI k18)), (14, .long a33_14), (16, .int (nI a33_16))]) hx hb dL_bears_184 hl (k := 15) rfl (nI_succ k33).symm (by decide) rfl (fun ls hl => ?_)
                refine lv_goto (tgt := 33) hx hb dL_bears_187 (by decide) ?_
                exact ih33 (k33 + 1) a33_11 a33_14 a33_16 (by first | omega | (simp only [lSI_K]; omega)) (by first | assumption | omega) (by first | assumption | omega) hG ls (lv_sub hl [1, 2, 3, 4, 5, 6, 7, 8, 9, 10, 11, 12, 13, 14, 15, 0] rfl)
          exact L33 c1 0 a18_11 (0 : Int64) 0 (by omega) (by first | assumption | omega) (by first | assumption | omega) hG ls (lv_sub hl [3, 4, 5, 6, 7, 8, 9, 10, 11, 12, 13, 14, 15, 2, 1, 0] rfl)
      exact L18 4 0 a9_9 a9_11 (by omega) (by first | assumption | omega) hG ls (lv_sub hl [1, 2, 3, 4, 5, 6, 7, 8, 9, 10, 11, 12, 0] rfl)
  exact L9 5 0 (0 : Int64) 0 (by omega) (by first | assumption | omega) hG ls (lv_sub hl [3, 4, 5, 6, 7, 8, 9, 10, 11, 2, 1, 0] rfl)

def fL_cost_S19 (σ : LT) (n1 : Nat) (c1 : Nat) (v1 : Nat) (y1 : Nat) (k6 : Nat) (a6_10 : Int64) (k19 : Nat) (a19_13 : Nat) : (Nat) := (if lK σ 3 (6 * k19 + 4) = k6 then (if (lK σ 3 (6 * k19 + 2)) / 100 = y1 then 1 else a19_13) else a19_13)
def fL_cost_L19 (σ : LT) (n1 : Nat) (c1 : Nat) (v1 : Nat) (y1 : Nat) (k6 : Nat) (a6_10 : Int64) : Nat → Nat → Nat → (Int64)
  | 0, k19, a19_13 => (if a19_13 = 0 then a6_10 else (a6_10 + (fL_bears σ n1 c1 k6)))
  | n19 + 1, k19, a19_13 => lseq (fL_cost_S19 σ n1 c1 v1 y1 k6 a6_10 k19 a19_13) (fun q => fL_cost_L19 σ n1 c1 v1 y1 k6 a6_10 n19 (k19 + 1) q)
def fL_cost_S6 (σ : LT) (n1 : Nat) (c1 : Nat) (v1 : Nat) (y1 : Nat) (k6 : Nat) (a6_10 : Int64) : (Int64) := (fL_cost_L19 σ n1 c1 v1 y1 k6 a6_10 c1 0 0)
def fL_cost_L6 (σ : LT) (n1 : Nat) (c1 : Nat) (v1 : Nat) (y1 : Nat) : Nat → Nat → Int64 → Int64
  | 0, k6, a6_10 => a6_10
  | n6 + 1, k6, a6_10 => lseq (fL_cost_S6 σ n1 c1 v1 y1 k6 a6_10) (fun q => fL_cost_L6 σ n1 c1 v1 y1 n6 (k6 + 1) q)
def fL_cost (σ : LT) (n1 : Nat) (c1 : Nat) (v1 : Nat) (y1 : Nat) : Int64 := (fL_cost_L6 σ n1 c1 v1 y1 v1 0 (0 : Int64))
set_option maxHeartbeats 4000000 in
set_option maxRecDepth 100000 in
theorem mL_cost (l : Launch) (lo : Nat) (D : va_G) (E : Nat → ClassId) (h : XW) (σ : LT) (ar : Nat → Nat) (hL : RA E σ ar h) (hW : LW σ) (n1 : Nat) (c1 : Nat) (v1 : Nat) (y1 : Nat) (hn : n1 ≤ 12) (hc : c1 ≤ 10) (hv : v1 ≤ 10) (hy : y1 < 3) : Met l yL_cost wsL_cost ({ frames := 2, cells := 0, slots := 0, locals := 67 } : Room) (xP lo D E h [.ref (ar 0), .int (nI n1), .ref (ar 1), .ref (ar 3), .int (nI c1), .ref (ar 4), .ref (ar 5), .ref (ar 7), .int (nI v1), .int (nI y1)]) (xR (some (.long (fL_cost σ n1 c1 v1 y1)))) 0 0 (fun _ => False) := by
  obtain ⟨G, hG⟩ : ∃ G, fL_cost σ n1 c1 v1 y1 = G := ⟨_, rfl⟩
  rw [hG]
  unfold fL_cost at hG
  refine Met.ofW (cc := cL_cost) (maxL := 15) (ret := (some .long)) (by decide) rfl ?_
  intro p e s m args below meth c s₁ B hml hv
  obtain ⟨rfl, I⟩ := hv
  have hx := B.exec
  have hb := B.bytes
  have hr := B.returns
  have hts := atoms_spec (ws := wsL_cost) B.pre
  have hown : s.vm.findClass RL = some m.cls := findClass_of_methodNamed B.named
  have hlocks := B.notSynchronized
  have hl := lv_entry ([.ref (ar 0), .int (nI n1), .ref (ar 1), .ref (ar 3), .int (nI c1), .ref (ar 4), .ref (ar 5), .ref (ar 7), .int (nI v1), .int (nI y1)] : List Value) (n := 15) (Nat.le_of_ble_eq_true rfl)
  rw [lg_entry_eq]
  generalize (lg_sl ([.ref (ar 0), .int (nI n1), .ref (ar 1), .ref (ar 3), .int (nI c1), .ref (ar 4), .ref (ar 5), .ref (ar 7), .int (nI v1), .int (nI y1)] : List Value) ++ List.replicate (15 - (lg_sl ([.ref (ar 0), .int (nI n1), .ref (ar 1), .ref (ar 3), .int (nI c1), .ref (ar 4), .ref (ar 5), .ref (ar 7), .int (nI v1), .int (nI y1)] : List Value)).length) Slot.unset).toArray = ls at hl ⊢
  have hl : lv_has ls 15 [(0, .ref (ar 0)), (1, .int (nI n1)), (2, .ref (ar 1)), (3, .ref (ar 3)), (4, .int (nI c1)), (5, .ref (ar 4)), (6, .ref (ar 5)), (7, .ref (ar 7)), (8, .int (nI v1)), (9, .int (nI y1))] := hl
  refine lv_lconst (v := (0 : Int64)) hx hb dL_cost_0 rfl ?_
  refine lv_lstore (lv' := [(10, .long (0 : Int64)), (0, .ref (ar 0)), (1, .int (nI n1)), (2, .ref (ar 1)), (3, .ref (ar 3)), (4, .int (nI c1)), (5, .ref (ar 4)), (6, .ref (ar 5)), (7, .ref (ar 7)), (8, .int (nI v1)), (9, .int (nI y1))]) hx hb dL_cost_1 hl (by decide) rfl (fun ls hl => ?_)
  refine lv_iconst (v := (nI 0)) hx hb dL_cost_3 (by decide) ?_
  refine lv_istore (lv' := [(12, .int (nI 0)), (10, .long (0 : Int64)), (0, .ref (ar 0)), (1, .int (nI n1)), (2, .ref (ar 1)), (3, .ref (ar 3)), (4, .int (nI c1)), (5, .ref (ar 4)), (6, .ref (ar 5)), (7, .ref (ar 7)), (8, .int (nI v1)), (9, .int (nI y1))]) hx hb dL_cost_4 hl (by decide) rfl (fun ls hl => ?_)
  have L6 : ∀ (n6 : Nat) (k6 : Nat) (a6_10 : Int64), k6 + n6 = v1 → fL_cost_L6 σ n1 c1 v1 y1 n6 k6 a6_10 = G → ∀ ls : Array Slot, lv_has ls 15 [(0, .ref (ar 0)), (1, .int (nI n1)), (2, .ref (ar 1)), (3, .ref (ar 3)), (4, .int (nI c1)), (5, .ref (ar 4)), (6, .ref (ar 5)), (7, .ref (ar 7)), (8, .int (nI v1)), (9, .int (nI y1)), (10, .long a6_10), (12, .int (nI k6))] → W p l e (headSpec wsL_cost ({ frames := 2, cells := 0, slots := 0, locals := 67 } : Room)).room s m ([.ref (ar 0), .int (nI n1), .ref (ar 1), .ref (ar 3), .int (nI c1), .ref (ar 4), .ref (ar 5), .ref (ar 7), .int (nI v1), .int (nI y1)] : List Value).toArray below meth c s.heap [] 0 0 (MQ below (xR (some (.long G))) ([.ref (ar 0), .int (nI n1), .ref (ar 1), .ref (ar 3), .int (nI c1), .ref (ar 4), .ref (ar 5), .ref (ar 7), .int (nI v1), .int (nI y1)] : List Value).toArray s 0 0 (fun _ => False)) (F0 m 6 ls []) := by
    intro n6
    induction n6 with
    | zero =>
      intro k6 a6_10 hkn hG ls hl
      have hkN : k6 = v1 := by omega
      have hG : a6_10 = G := hG
      refine lv_iload hx hb dL_cost_6 (lv_at hl 11 rfl) ?_
      refine lv_iload hx hb dL_cost_8 (lv_at hl 8 rfl) ?_
      refine lv_icmp_ge (tgt := 99) hx hb dL_cost_10 (by decide) (fun _ => ?_) (fun q => absurd (nI_le (Nat.le_of_eq hkN.symm) (by omega)) q)
      refine lv_lload hx hb dL_cost_99 (lv_at hl 10 rfl) ?_
      exact xrlR hx hb hr hlocks dL_cost_101 hG
    | succ n6 ih6 =>
      intro k6 a6_10 hkn hG ls hl
      have hk : k6 < v1 := by omega
      have hG : lseq ((fL_cost_L19 σ n1 c1 v1 y1 k6 a6_10 c1 0 0)) (fun q => fL_cost_L6 σ n1 c1 v1 y1 n6 (k6 + 1) q) = G := hG
      refine lv_iload hx hb dL_cost_6 (lv_at hl 11 rfl) ?_
      refine lv_iload hx hb dL_cost_8 (lv_at hl 8 rfl) ?_
      refine lv_icmp_ge (tgt := 99) hx hb dL_cost_10 (by decide) (fun q => absurd q (nI_ge hk (by omega))) (fun _ => ?_)
      refine lv_iconst (v := (nI 0)) hx hb dL_cost_13 (by decide) ?_
      refine lv_istore (lv' := [(13, .int (nI 0)), (0, .ref (ar 0)), (1, .int (nI n1)), (2, .ref (ar 1)), (3, .ref (ar 3)), (4, .int (nI c1)), (5, .ref (ar 4)), (6, .ref (ar 5)), (7, .ref (ar 7)), (8, .int (nI v1)), (9, .int (nI y1)), (10, .long a6_10), (12, .int (nI k6))]) hx hb dL_cost_14 hl (by decide) rfl (fun ls hl => ?_)
      refine lv_iconst (v := (nI 0)) hx hb dL_cost_16 (by decide) ?_
      refine lv_istore (lv' := [(14, .int (nI 0)), (13, .int (nI 0)), (0, .ref (ar 0)), (1, .int (nI n1)), (2, .ref (ar 1)), (3, .ref (ar 3)), (4, .int (nI c1)), (5, .ref (ar 4)), (6, .ref (ar 5)), (7, .ref (ar 7)), (8, .int (nI v1)), (9, .int (nI y1)), (10, .long a6_10), (12, .int (nI k6))]) hx hb dL_cost_17 hl (by decide) rfl (fun ls hl => ?_)
      have L19 : ∀ (n19 : Nat) (k19 : Nat) (a19_13 : Nat), k19 + n19 = c1 → (a19_13 ≤ 1) → lseq (fL_cost_L19 σ n1 c1 v1 y1 k6 a6_10 n19 k19 a19_13) (fun q => fL_cost_L6 σ n1 c1 v1 y1 n6 (k6 + 1) q) = G → ∀ ls : Array Slot, lv_has ls 15 [(0, .ref (ar 0)), (1, .int (nI n1)), (2, .ref (ar 1)), (3, .ref (ar 3)), (4, .int (nI c1)), (5, .ref (ar 4)), (6, .ref (ar 5)), (7, .ref (ar 7)), (8, .int (nI v1)), (9, .int (nI y1)), (10, .long a6_10), (12, .int (nI k6)), (13, .int (nI a19_13)), (14, .int (nI k19))] → W p l e (headSpec wsL_cost ({ frames := 2, cells := 0, slots := 0, locals := 67 } : Room)).room s m ([.ref (ar 0), .int (nI n1), .ref (ar 1), .ref (ar 3), .int (nI c1), .ref (ar 4), .ref (ar 5), .ref (ar 7), .int (nI v1), .int (nI y1)] : List Value).toArray below meth c s.heap [] 0 0 (MQ below (xR (some (.long G))) ([.ref (ar 0), .int (nI n1), .ref (ar 1), .ref (ar 3), .int (nI c1), .ref (ar 4), .ref (ar 5), .ref (ar 7), .int (nI v1), .int (nI y1)] : List Value).toArray s 0 0 (fun _ => False)) (F0 m 19 ls []) := by
        intro n19
        induction n19 with
        | zero =>
          intro k19 a19_13 hkn i19_0 hG ls hl
          have hkN : k19 = c1 := by omega
          have hG : lseq ((if a19_13 = 0 then a6_10 else (a6_10 + (fL_bears σ n1 c1 k6)))) (fun q => fL_cost_L6 σ n1 c1 v1 y1 n6 (k6 + 1) q) = G := hG
          refine lv_iload hx hb dL_cost_19 (lv_at hl 13 rfl) ?_
          refine lv_iload hx hb dL_cost_21 (lv_at hl 4 rfl) ?_
          refine lv_icmp_ge (tgt := 66) hx hb dL_cost_23 (by decide) (fun _ => ?_) (fun q => absurd (nI_le (Nat.le_of_eq hkN.symm) (by omega)) q)
          refine lv_iload hx hb dL_cost_66 (lv_at hl 12 rfl) ?_
          refine lv_if_eq (tgt := 93) hx hb dL_cost_68 (by decide) (fun c_68 => ?_) (fun c_68 => ?_)
          · skip
            have c_68 : a19_13 = 0 := (nI_eq (a := a19_13) (b := 0) (by omega) (by omega)).mp c_68
            rw [if_pos c_68] at hG
            refine lv_iinc (v := (nI (k6 + 1))) (lv' := [(12, .int (nI (k6 + 1))), (0, .ref (ar 0)), (1, .int (nI n1)), (2, .ref (ar 1)), (3, .ref (ar 3)), (4, .int (nI c1)), (5, .ref (ar 4)), (6, .ref (ar 5)), (7, .ref (ar 7)), (8, .int (nI v1)), (9, .int (nI y1)), (10, .long a6_10), (13, .int (nI a19_13)), (14, .int (nI k19))]) hx hb dL_cost_93 hl (k := 11) rfl (nI_succ k6).symm (by decide) rfl (fun ls hl => ?_)
            refine lv_goto (tgt := 6) hx hb dL_cost_96 (by decide) ?_
            exact ih6 (k6 + 1) a6_10 (by first | omega | (simp only [lSI_K]; omega)) hG ls (lv_sub hl [1, 2, 3, 4, 5, 6, 7, 8, 9, 10, 11, 0] rfl)
          · skip
            have c_68 : ¬ a19_13 = 0 := fun q => c_68 ((nI_eq (a := a19_13) (b := 0) (by omega) (by omega)).mpr q)
            rw [if_neg c_68] at hG
            refine lv_lload hx hb dL_cost_71 (lv_at hl 10 rfl) ?_
            refine lv_aload_n hx hb dL_cost_73 rfl (lv_at hl 0 rfl) ?_
            refine lv_iload_n hx hb dL_cost_74 rfl (lv_at hl 1 rfl) ?_
            refine lv_aload_n hx hb dL_cost_75 rfl (lv_at hl 2 rfl) ?_
            refine lv_aload_n hx hb dL_cost_76 rfl (lv_at hl 3 rfl) ?_
            refine lv_iload hx hb dL_cost_77 (lv_at hl 4 rfl) ?_
            refine lv_aload hx hb dL_cost_79 (lv_at hl 5 rfl) ?_
            refine lv_aload hx hb dL_cost_81 (lv_at hl 6 rfl) ?_
            refine lv_aload hx hb dL_cost_83 (lv_at hl 7 rfl) ?_
            refine lv_iload hx hb dL_cost_85 (lv_at hl 11 rfl) ?_
            refine xcsR (As := [.ref (ar 0), .int (nI n1), .ref (ar 1), .ref (ar 3), .int (nI c1), .ref (ar 4), .ref (ar 5), .ref (ar 7), .int (nI k6)]) (rest := [.long a6_10]) (v := some (.long (fL_bears σ n1 c1 k6))) ⟨hx, hb, hml, hown, hts⟩ (mL_bears l lo D E h σ ar hL hW n1 c1 k6 (by first | assumption | omega) (by first | assumption | omega) (by first | assumption | omega)) (va_cwS 9 hts gL_cost_L_bears rfl rfl rfl (by decide +kernel) ⟨Nat.le_of_ble_eq_true rfl, Nat.le_of_ble_eq_true rfl⟩) I rfl hl.1 rfl (Nat.le_of_ble_eq_true rfl) dL_cost_87 ⟨Nat.le_of_ble_eq_true rfl, Nat.le_of_ble_eq_true rfl⟩ ?_
            refine W.eq (g2 := F0 m 90 ls [.long (fL_bears σ n1 c1 k6), .long a6_10]) rfl ?_
            refine lv_ladd hx hb dL_cost_90 ?_
            refine lv_lstore (lv' := [(10, .long (a6_10 + (fL_bears σ n1 c1 k6))), (0, .ref (ar 0)), (1, .int (nI n1)), (2, .ref (ar 1)), (3, .ref (ar 3)), (4, .int (nI c1)), (5, .ref (ar 4)), (6, .ref (ar 5)), (7, .ref (ar 7)), (8, .int (nI v1)), (9, .int (nI y1)), (12, .int (nI k6)), (13, .int (nI a19_13)), (14, .int (nI k19))]) hx hb dL_cost_91 hl (by decide) rfl (fun ls hl => ?_)
            refine lv_iinc (v := (nI (k6 + 1))) (lv' := [(12, .int (nI (k6 + 1))), (10, .long (a6_10 + (fL_bears σ n1 c1 k6))), (0, .ref (ar 0)), (1, .int (nI n1)), (2, .ref (ar 1)), (3, .ref (ar 3)), (4, .int (nI c1)), (5, .ref (ar 4)), (6, .ref (ar 5)), (7, .ref (ar 7)), (8, .int (nI v1)), (9, .int (nI y1)), (13, .int (nI a19_13)), (14, .int (nI k19))]) hx hb dL_cost_93 hl (k := 11) rfl (nI_succ k6).symm (by decide) rfl (fun ls hl => ?_)
            refine lv_goto (tgt := 6) hx hb dL_cost_96 (by decide) ?_
            exact ih6 (k6 + 1) (a6_10 + (fL_bears σ n1 c1 k6)) (by first | omega | (simp only [lSI_K]; omega)) hG ls (lv_sub hl [2, 3, 4, 5, 6, 7, 8, 9, 10, 11, 1, 0] rfl)
        | succ n19 ih19 =>
          intro k19 a19_13 hkn i19_0 hG ls hl
          have hk : k19 < c1 := by omega
          have hG : lseq (lseq ((if lK σ 3 (6 * k19 + 4) = k6 then (if (lK σ 3 (6 * k19 + 2)) / 100 = y1 then 1 else a19_13) else a19_13)) (fun q => fL_cost_L19 σ n1 c1 v1 y1 k6 a6_10 n19 (k19 + 1) q)) (fun q => fL_cost_L6 σ n1 c1 v1 y1 n6 (k6 + 1) q) = G := hG
          refine lv_iload hx hb dL_cost_19 (lv_at hl 13 rfl) ?_
          refine lv_iload hx hb dL_cost_21 (lv_at hl 4 rfl) ?_
          refine lv_icmp_ge (tgt := 66) hx hb dL_cost_23 (by decide) (fun q => absurd q (nI_ge hk (by omega))) (fun _ => ?_)
          refine lv_aload_n hx hb dL_cost_26 rfl (lv_at hl 3 rfl) ?_
          refine lv_bipush (v := (nI 6)) hx hb dL_cost_27 (by decide) ?_
          refine lv_iload hx hb dL_cost_29 (lv_at hl 13 rfl) ?_
          refine lv_imul hx hb dL_cost_31 ?_
          refine xtop (y := .int (nI (6 * k19))) (congrArg Value.int (pk_mul _ _)) ?_
          refine lv_iconst (v := (nI 4)) hx hb dL_cost_32 (by decide) ?_
          refine lv_iadd hx hb dL_cost_33 ?_
          refine xtop (y := .int (nI (6 * k19 + 4))) (congrArg Value.int (nI_add _ _)) ?_
          refine xiald (i := (6 * k19 + 4)) (n := 64) hx hb I (hL.1 3 64 (by decide)) (by omega) (by decide) dL_cost_34 ?_
          have g34 : lK σ 3 (6 * k19 + 4) < 1073741824 := hW.2.2.2.2.2.1 3 (6 * k19 + 4)
          refine lv_iload hx hb dL_cost_35 (lv_at hl 11 rfl) ?_
          refine lv_icmp_ne (tgt := 60) hx hb dL_cost_37 (by decide) (fun c_37 => ?_) (fun c_37 => ?_)
          · skip
            have c_37 : ¬ lK σ 3 (6 * k19 + 4) = k6 := fun q => c_37 ((nI_eq (a := (lK σ 3 (6 * k19 + 4))) (b := k6) (by omega) (by omega)).mpr q)
            rw [if_neg c_37] at hG
            refine lv_iinc (v := (nI (k19 + 1))) (lv' := [(14, .int (nI (k19 + 1))), (0, .ref (ar 0)), (1, .int (nI n1)), (2, .ref (ar 1)), (3, .ref (ar 3)), (4, .int (nI c1)), (5, .ref (ar 4)), (6, .ref (ar 5)), (7, .ref (ar 7)), (8, .int (nI v1)), (9, .int (nI y1)), (10, .long a6_10), (12, .int (nI k6)), (13, .int (nI a19_13))]) hx hb dL_cost_60 hl (k := 13) rfl (nI_succ k19).symm (by decide) rfl (fun ls hl => ?_)
            refine lv_goto (tgt := 19) hx hb dL_cost_63 (by decide) ?_
            exact ih19 (k19 + 1) a19_13 (by first | omega | (simp only [lSI_K]; omega)) (by first | assumption | omega) hG ls (lv_sub hl [1, 2, 3, 4, 5, 6, 7, 8, 9, 10, 11, 12, 13, 0] rfl)
          · skip
            have c_37 : lK σ 3 (6 * k19 + 4) = k6 := (nI_eq (a := (lK σ 3 (6 * k19 + 4))) (b := k6) (by omega) (by omega)).mp c_37
            rw [if_pos c_37] at hG
            refine lv_aload_n hx hb dL_cost_40 rfl (lv_at hl 3 rfl) ?_
            refine lv_bipush (v := (nI 6)) hx hb dL_cost_41 (by decide) ?_
            refine lv_iload hx hb dL_cost_43 (lv_at hl 13 rfl) ?_
            refine lv_imul hx hb dL_cost_45 ?_
            refine xtop (y := .int (nI (6 * k19))) (congrArg Value.int (pk_mul _ _)) ?_
            refine lv_iconst (v := (nI 2)) hx hb dL_cost_46 (by decide) ?_
            refine lv_iadd hx hb dL_cost_47 ?_
            refine xtop (y := .int (nI (6 * k19 + 2))) (congrArg Value.int (nI_add _ _)) ?_
            refine xiald (i := (6 * k19 + 2)) (n := 64) hx hb I (hL.1 3 64 (by decide)) (by omega) (by decide) dL_cost_48 ?_
            have g48 : lK σ 3 (6 * k19 + 2) < 1073741824 := hW.2.2.2.2.2.1 3 (6 * k19 + 2)
            have b48 : lK σ 3 (6 * k19 + 2) < 300 := hW.2.2.2.1 k19
            refine lv_bipush (v := (nI 100)) hx hb dL_cost_49 (by decide) ?_
            refine lv_idiv hx hb dL_cost_51 (by decide) ?_
            refine xtop (y := .int (nI ((lK σ 3 (6 * k19 + 2)) / 100))) (congrArg Value.int (pk_div (by omega) (by decide) (by decide))) ?_
            refine lv_iload hx hb dL_cost_52 (lv_at hl 9 rfl) ?_
            refine lv_icmp_ne (tgt := 60) hx hb dL_cost_54 (by decide) (fun c_54 => ?_) (fun c_54 => ?_)
            · skip
              have c_54 : ¬ (lK σ 3 (6 * k19 + 2)) / 100 = y1 := fun q => c_54 ((nI_eq (a := ((lK σ 3 (6 * k19 + 2)) / 100)) (b := y1) (by omega) (by omega)).mpr q)
              rw [if_neg c_54] at hG
              refine lv_iinc (v := (nI (k19 + 1))) (lv' := [(14, .int (nI (k19 + 1))), (0, .ref (ar 0)), (1, .int (nI n1)), (2, .ref (ar 1)), (3, .ref (ar 3)), (4, .int (nI c1)), (5, .ref (ar 4)), (6, .ref (ar 5)), (7, .ref (ar 7)), (8, .int (nI v1)), (9, .int (nI y1)), (10, .long a6_10), (12, .int (nI k6)), (13, .int (nI a19_13))]) hx hb dL_cost_60 hl (k := 13) rfl (nI_succ k19).symm (by decide) rfl (fun ls hl => ?_)
              refine lv_goto (tgt := 19) hx hb dL_cost_63 (by decide) ?_
              exact ih19 (k19 + 1) a19_13 (by first | omega | (simp only [lSI_K]; omega)) (by first | assumption | omega) hG ls (lv_sub hl [1, 2, 3, 4, 5, 6, 7, 8, 9, 10, 11, 12, 13, 0] rfl)
            · skip
              have c_54 : (lK σ 3 (6 * k19 + 2)) / 100 = y1 := (nI_eq (a := ((lK σ 3 (6 * k19 + 2)) / 100)) (b := y1) (by omega) (by omega)).mp c_54
              rw [if_pos c_54] at hG
              refine lv_iconst (v := (nI 1)) hx hb dL_cost_57 (by decide) ?_
              refine lv_istore (lv' := [(13, .int (nI 1)), (0, .ref (ar 0)), (1, .int (nI n1)), (2, .ref (ar 1)), (3, .ref (ar 3)), (4, .int (nI c1)), (5, .ref (ar 4)), (6, .ref (ar 5)), (7, .ref (ar 7)), (8, .int (nI v1)), (9, .int (nI y1)), (10, .long a6_10), (12, .int (nI k6)), (14, .int (nI k19))]) hx hb dL_cost_58 hl (by decide) rfl (fun ls hl => ?_)
              refine lv_iinc (v := (nI (k19 + 1))) (lv' := [(14, .int (nI (k19 + 1))), (13, .int (nI 1)), (0, .ref (ar 0)), (1, .int (nI n1)), (2, .ref (ar 1)), (3, .ref (ar 3)), (4, .int (nI c1)), (5, .ref (ar 4)), (6, .ref (ar 5)), (7, .ref (ar 7)), (8, .int (nI v1)), (9, .int (nI y1)), (10, .long a6_10), (12, .int (nI k6))]) hx hb dL_cost_60 hl (k := 13) rfl (nI_succ k19).symm (by decide) rfl (fun ls hl => ?_)
              refine lv_goto (tgt := 19) hx hb dL_cost_63 (by decide) ?_
              exact ih19 (k19 + 1) 1 (by first | omega | (simp only [lSI_K]; omega)) (by first | assumption | omega) hG ls (lv_sub hl [2, 3, 4, 5, 6, 7, 8, 9, 10, 11, 12, 13, 1, 0] rfl)
      exact L19 c1 0 0 (by omega) (by first | assumption | omega) hG ls (lv_sub hl [2, 3, 4, 5, 6, 7, 8, 9, 10, 11, 12, 13, 1, 0] rfl)
  exact L6 v1 0 (0 : Int64) (by omega) hG ls (lv_sub hl [2, 3, 4, 5, 6, 7, 8, 9, 10, 11, 1, 0] rfl)

def fL_due (σ : LT) (n1 : Nat) (m1 : Nat) (y1 : Nat) : Int64 := (if (lI σ 7 (3 * m1 + y1)) ≤ 0 then (if lF σ ≤ y1 then ((((fL_weight σ n1 m1 y1) * (lN (lK σ 6 y1))) / (1000 : Int64)) + (((((fL_weight σ n1 m1 y1) * (lN (lK σ 6 y1))) / (1000 : Int64)) * (lN (lK σ 6 (3 + y1)))) / (100 : Int64))) else (0 : Int64)) else (lL σ 8 (3 * m1 + y1)))
set_option maxHeartbeats 4000000 in
set_option maxRecDepth 100000 in
theorem mL_due (l : Launch) (lo : Nat) (D : va_G) (E : Nat → ClassId) (h : XW) (σ : LT) (ar : Nat → Nat) (hL : RA E σ ar h) (hW : LW σ) (n1 : Nat) (m1 : Nat) (y1 : Nat) (hn : n1 ≤ 12) (hm : m1 < 3) (hy : y1 < 3) : Met l yL_due wsL_due ({ frames := 1, cells := 0, slots := 0, locals := 29 } : Room) (xP lo D E h [.ref (ar 0), .int (nI n1), .ref (ar 1), .ref (ar 2), .ref (ar 6), .ref (ar 8), .ref (ar 7), .int (nI m1), .int (nI y1)]) (xR (some (.long (fL_due σ n1 m1 y1)))) 0 0 (fun _ => False) := by
  obtain ⟨G, hG⟩ : ∃ G, fL_due σ n1 m1 y1 = G := ⟨_, rfl⟩
  rw [hG]
  unfold fL_due at hG
  refine Met.ofW (cc := cL_due) (maxL := 11) (ret := (some .long)) (by decide) rfl ?_
  intro p e s m args below meth c s₁ B hml hv
  obtain ⟨rfl, I⟩ := hv
  have hx := B.exec
  have hb := B.bytes
  have hr := B.returns
  have hts := atoms_spec (ws := wsL_due) B.pre
  have hown : s.vm.findClass RL = some m.cls := findClass_of_methodNamed B.named
  have hlocks := B.notSynchronized
  have hl := lv_entry ([.ref (ar 0), .int (nI n1), .ref (ar 1), .ref (ar 2), .ref (ar 6), .ref (ar 8), .ref (ar 7), .int (nI m1), .int (nI y1)] : List Value) (n := 11) (Nat.le_of_ble_eq_true rfl)
  rw [lg_entry_eq]
  generalize (lg_sl ([.ref (ar 0), .int (nI n1), .ref (ar 1), .ref (ar 2), .ref (ar 6), .ref (ar 8), .ref (ar 7), .int (nI m1), .int (nI y1)] : List Value) ++ List.replicate (11 - (lg_sl ([.ref (ar 0), .int (nI n1), .ref (ar 1), .ref (ar 2), .ref (ar 6), .ref (ar 8), .ref (ar 7), .int (nI m1), .int (nI y1)] : List Value)).length) Slot.unset).toArray = ls at hl ⊢
  have hl : lv_has ls 11 [(0, .ref (ar 0)), (1, .int (nI n1)), (2, .ref (ar 1)), (3, .ref (ar 2)), (4, .ref (ar 6)), (5, .ref (ar 8)), (6, .ref (ar 7)), (7, .int (nI m1)), (8, .int (nI y1))] := hl
  refine lv_aload hx hb dL_due_0 (lv_at hl 6 rfl) ?_
  refine lv_iconst (v := (nI 3)) hx hb dL_due_2 (by decide) ?_
  refine lv_iload hx hb dL_due_3 (lv_at hl 7 rfl) ?_
  refine lv_imul hx hb dL_due_5 ?_
  refine xtop (y := .int (nI (3 * m1))) (congrArg Value.int (pk_mul _ _)) ?_
  refine lv_iload hx hb dL_due_6 (lv_at hl 8 rfl) ?_
  refine lv_iadd hx hb dL_due_8 ?_
  refine xtop (y := .int (nI (3 * m1 + y1))) (congrArg Value.int (nI_add _ _)) ?_
  refine xiald (i := (3 * m1 + y1)) (n := 16) hx hb I (hL.2.1 7 16 (by decide)) (by omega) (by decide) dL_due_9 ?_
  refine lv_if_le (tgt := 24) hx hb dL_due_10 (by decide) (fun c_10 => ?_) (fun c_10 => ?_)
  · skip
    rw [if_pos c_10] at hG
    refine lv_iload hx hb dL_due_24 (lv_at hl 8 rfl) ?_
    refine lv_aload hx hb dL_due_26 (lv_at hl 6 rfl) ?_
    refine lv_bipush (v := (nI 12)) hx hb dL_due_28 (by decide) ?_
    refine xiald (i := 12) (n := 16) hx hb I (hL.2.1 7 16 (by decide)) (by omega) (by decide) dL_due_30 ?_
    have f30 : lI σ 7 12 = nI (lF σ) ∧ lF σ ≤ 3 := hW.2.2.2.2.1
    refine xtop (y := .int (nI (lF σ))) (congrArg Value.int f30.1) ?_
    have b30 := f30.2
    refine lv_icmp_ge (tgt := 36) hx hb dL_due_31 (by decide) (fun c_31 => ?_) (fun c_31 => ?_)
    · skip
      have c_31 : lF σ ≤ y1 := (nI_leI (a := (lF σ)) (b := y1) (by omega) (by omega)).mp c_31
      rw [if_pos c_31] at hG
      refine lv_aload_n hx hb dL_due_36 rfl (lv_at hl 0 rfl) ?_
      refine lv_iload_n hx hb dL_due_37 rfl (lv_at hl 1 rfl) ?_
      refine lv_aload_n hx hb dL_due_38 rfl (lv_at hl 2 rfl) ?_
      refine lv_aload_n hx hb dL_due_39 rfl (lv_at hl 3 rfl) ?_
      refine lv_iload hx hb dL_due_40 (lv_at hl 7 rfl) ?_
      refine lv_iload hx hb dL_due_42 (lv_at hl 8 rfl) ?_
      refine xcsR (As := [.ref (ar 0), .int (nI n1), .ref (ar 1), .ref (ar 2), .int (nI m1), .int (nI y1)]) (rest := []) (v := some (.long (fL_weight σ n1 m1 y1))) ⟨hx, hb, hml, hown, hts⟩ (mL_weight l lo D E h σ ar hL hW n1 m1 y1 (by first | assumption | omega) (by first | assumption | omega) (by first | assumption | omega)) (va_cwS 6 hts gL_due_L_weight rfl rfl rfl (by decide +kernel) ⟨Nat.le_of_ble_eq_true rfl, Nat.le_of_ble_eq_true rfl⟩) I rfl hl.1 rfl (Nat.le_of_ble_eq_true rfl) dL_due_44 ⟨Nat.le_of_ble_eq_true rfl, Nat.le_of_ble_eq_true rfl⟩ ?_
      refine W.eq (g2 := F0 m 47 ls [.long (fL_weight σ n1 m1 y1)]) rfl ?_
      refine lv_aload hx hb dL_due_47 (lv_at hl 4 rfl) ?_
      refine lv_iload hx hb dL_due_49 (lv_at hl 8 rfl) ?_
      refine xiald (i := y1) (n := 6) hx hb I (hL.1 6 6 (by decide)) (by omega) (by decide) dL_due_51 ?_
      have g51 : lK σ 6 y1 < 1073741824 := hW.2.2.2.2.2.1 6 y1
      refine lv_i2l (v := (lN (lK σ 6 y1))) hx hb dL_due_52 (nI_l (by omega)) ?_
      refine lv_lmul hx hb dL_due_53 ?_
      refine lv_ldc2 (v := (1000 : Int64)) hx hb hown (hts _ (List.mem_of_getElem? (i := 1) rfl)) dL_due_54 ?_
      refine lv_ldiv hx hb dL_due_57 (by decide) ?_
      refine lv_lstore (lv' := [(9, .long (((fL_weight σ n1 m1 y1) * (lN (lK σ 6 y1))) / (1000 : Int64))), (0, .ref (ar 0)), (1, .int (nI n1)), (2, .ref (ar 1)), (3, .ref (ar 2)), (4, .ref (ar 6)), (5, .ref (ar 8)), (6, .ref (ar 7)), (7, .int (nI m1)), (8, .int (nI y1))]) hx hb dL_due_58 hl (by decide) rfl (fun ls hl => ?_)
      refine lv_lload hx hb dL_due_60 (lv_at hl 0 rfl) ?_
      refine lv_lload hx hb dL_due_62 (lv_at hl 0 rfl) ?_
      refine lv_aload hx hb dL_due_64 (lv_at hl 5 rfl) ?_
      refine lv_iconst (v := (nI 3)) hx hb dL_due_66 (by decide) ?_
      refine lv_iload hx hb dL_due_67 (lv_at hl 9 rfl) ?_
      refine lv_iadd hx hb dL_due_69 ?_
      refine xtop (y := .int (nI (3 + y1))) (congrArg Value.int (nI_add _ _)) ?_
      refine xiald (i := (3 + y1)) (n := 6) hx hb I (hL.1 6 6 (by decide)) (by omega) (by decide) dL_due_70 ?_
      have g70 : lK σ 6 (3 + y1) < 1073741824 := hW.2.2.2.2.2.1 6 (3 + y1)
      refine lv_i2l (v := (lN (lK σ 6 (3 + y1)))) hx hb dL_due_71 (nI_l (by omega)) ?_
      refine lv_lmul hx hb dL_due_72 ?_
      refine lv_ldc2 (v := (100 : Int64)) hx hb hown (hts _ (List.mem_of_getElem? (i := 2) rfl)) dL_due_73 ?_
      refine lv_ldiv hx hb dL_due_76 (by decide) ?_
      refine lv_ladd hx hb dL_due_77 ?_
      exact xrlR hx hb hr hlocks dL_due_78 hG
    · skip
      have c_31 : ¬ lF σ ≤ y1 := fun q => c_31 ((nI_leI (a := (lF σ)) (b := y1) (by omega) (by omega)).mpr q)
      rw [if_neg c_31] at hG
      refine lv_lconst (v := (0 : Int64)) hx hb dL_due_34 rfl ?_
      exact xrlR hx hb hr hlocks dL_due_35 hG
  · skip
    rw [if_neg c_10] at hG
    refine lv_aload hx hb dL_due_13 (lv_at hl 5 rfl) ?_
    refine lv_iconst (v := (nI 3)) hx hb dL_due_15 (by decide) ?_
    refine lv_iload hx hb dL_due_16 (lv_at hl 7 rfl) ?_
    refine lv_imul hx hb dL_due_18 ?_
    refine xtop (y := .int (nI (3 * m1))) (congrArg Value.int (pk_mul _ _)) ?_
    refine lv_iload hx hb dL_due_19 (lv_at hl 8 rfl) ?_
    refine lv_iadd hx hb dL_due_21 ?_
    refine xtop (y := .int (nI (3 * m1 + y1))) (congrArg Value.int (nI_add _ _)) ?_
    refine xlald (i := (3 * m1 + y1)) (n := 9) hx hb I (hL.2.2.1 8 9 (by decide)) (by omega) (by decide) dL_due_22 ?_
    exact xrlR hx hb hr hlocks dL_due_23 hG
