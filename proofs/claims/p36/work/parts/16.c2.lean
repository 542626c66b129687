def fX4_applied_S12 (τ : CT) (k1 : Nat) (y1 : Nat) (x1 : Int64) (k12 : Nat) : (Unit ⊕ Int64) := (if (cI τ 39 ((k1 * 20 + y1 + 1) - k12 - 1)) = (-1) then (Sum.inl ()) else (Sum.inr (if (0 : Int64) < ((if (cI τ 39 ((k1 * 20 + y1 + 1) - k12 - 1)).toInt64 < x1 then (cI τ 39 ((k1 * 20 + y1 + 1) - k12 - 1)).toInt64 else x1) - (cI τ 38 ((k1 * 20 + y1 + 1) - k12 - 1)).toInt64) then ((if (cI τ 39 ((k1 * 20 + y1 + 1) - k12 - 1)).toInt64 < x1 then (cI τ 39 ((k1 * 20 + y1 + 1) - k12 - 1)).toInt64 else x1) - (cI τ 38 ((k1 * 20 + y1 + 1) - k12 - 1)).toInt64) else (0 : Int64))))
def fX4_applied_L12 (τ : CT) (k1 : Nat) (y1 : Nat) (x1 : Int64) : Nat → Nat → Int64
  | 0, k12 => (if (10000000 : Int64) < x1 then (10000000 : Int64) else x1)
  | n12 + 1, k12 => lbind (fX4_applied_S12 τ k1 y1 x1 k12) (fun q => fX4_applied_L12 τ k1 y1 x1 n12 (k12 + 1))
def fX4_applied (τ : CT) (k1 : Nat) (y1 : Nat) (x1 : Int64) : Int64 := (fX4_applied_L12 τ k1 y1 x1 (y1 + 1) 0)
set_option maxHeartbeats 4000000 in
set_option maxRecDepth 100000 in
theorem mX4_applied (l : Launch) (lo : Nat) (D : va_G) (E : Nat → ClassId) (h : XW) (Pr : Nat → Prop) (τ : CT) (ad : Nat → Nat → Nat) (fa : Nat → Nat → Option Nat) (hR : RC E Pr τ ad fa h) (hW : CW τ) (k1 : Nat) (y1 : Nat) (x1 : Int64) (hk1 : k1 < 4) (hy : y1 < 20) : Met l yX4_applied wsX4_applied ({ frames := 1, cells := 0, slots := 0, locals := 26 } : Room) (xP lo D E h [.ref (ad 7 0), .int (nI k1), .int (nI y1), .long x1]) (xR (some (.long (fX4_applied τ k1 y1 x1)))) 0 0 (fun _ => False) := by
  obtain ⟨G, hG⟩ : ∃ G, fX4_applied τ k1 y1 x1 = G := ⟨_, rfl⟩
  rw [hG]
  unfold fX4_applied at hG
  refine Met.ofW (cc := cX4_applied) (maxL := 7) (ret := (some .long)) (by decide) rfl ?_
  intro p e s m args below meth c s₁ B hml hv
  obtain ⟨rfl, I⟩ := hv
  have hx := B.exec
  have hb := B.bytes
  have hr := B.returns
  have hts := atoms_spec (ws := wsX4_applied) B.pre
  have hown : s.vm.findClass RX4 = some m.cls := findClass_of_methodNamed B.named
  have hlocks := B.notSynchronized
  have hl := lv_entry ([.ref (ad 7 0), .int (nI k1), .int (nI y1), .long x1] : List Value) (n := 7) (Nat.le_of_ble_eq_true rfl)
  rw [lg_entry_eq]
  generalize (lg_sl ([.ref (ad 7 0), .int (nI k1), .int (nI y1), .long x1] : List Value) ++ List.replicate (7 - (lg_sl ([.ref (ad 7 0), .int (nI k1), .int (nI y1), .long x1] : List Value)).length) Slot.unset).toArray = ls at hl ⊢
  have hl : lv_has ls 7 [(0, .ref (ad 7 0)), (1, .int (nI k1)), (2, .int (nI y1)), (3, .long x1)] := hl
  have hin4 : ∀ w ∈ u_ws RX4 TX4 2, w ∈ wsX4_applied := fun _ h => List.mem_cons_of_mem _ (List.mem_append_right _ (h))
  have hW0 := hW
  obtain ⟨w0, -⟩ := id hW
  refine lv_iload_n hx hb dX4_applied_0 rfl (lv_at hl 1 rfl) ?_
  refine lv_bipush (v := (nI 20)) hx hb dX4_applied_1 (by decide) ?_
  refine lv_imul hx hb dX4_applied_3 ?_
  refine xtop (y := .int (nI (k1 * 20))) (congrArg Value.int (pk_mul _ _)) ?_
  refine lv_istore (lv' := [(5, .int (nI (k1 * 20))), (0, .ref (ad 7 0)), (1, .int (nI k1)), (2, .int (nI y1)), (3, .long x1)]) hx hb dX4_applied_4 hl (by decide) rfl (fun ls hl => ?_)
  refine lv_iload hx hb dX4_applied_6 (lv_at hl 0 rfl) ?_
  refine lv_iload_n hx hb dX4_applied_8 rfl (lv_at hl 3 rfl) ?_
  refine lv_iadd hx hb dX4_applied_9 ?_
  refine xtop (y := .int (nI (k1 * 20 + y1))) (congrArg Value.int (nI_add _ _)) ?_
  refine xtop (y := .int (nI ((k1 * 20 + y1 + 1) - 0) + (-1))) (congrArg Value.int (dsc_0 (X := k1 * 20 + y1)).symm) ?_
  refine lv_istore (lv' := [(6, .int (nI ((k1 * 20 + y1 + 1) - 0) + (-1))), (5, .int (nI (k1 * 20))), (0, .ref (ad 7 0)), (1, .int (nI k1)), (2, .int (nI y1)), (3, .long x1)]) hx hb dX4_applied_10 hl (by decide) rfl (fun ls hl => ?_)
  have L12 : ∀ (n12 : Nat) (k12 : Nat), k12 + n12 = (y1 + 1) → fX4_applied_L12 τ k1 y1 x1 n12 k12 = G → ∀ ls : Array Slot, lv_has ls 7 [(0, .ref (ad 7 0)), (3, .long x1), (5, .int (nI (k1 * 20))), (6, .int (nI ((k1 * 20 + y1 + 1) - k12) + (-1)))] → W p l e (headSpec wsX4_applied ({ frames := 1, cells := 0, slots := 0, locals := 26 } : Room)).room s m ([.ref (ad 7 0), .int (nI k1), .int (nI y1), .long x1] : List Value).toArray below meth c s.heap [] 0 0 (MQ below (xR (some (.long G))) ([.ref (ad 7 0), .int (nI k1), .int (nI y1), .long x1] : List Value).toArray s 0 0 (fun _ => False)) (F0 m 12 ls []) := by
    intro n12
    induction n12 with
    | zero =>
      intro k12 hkn hG ls hl
      have hkN : k12 = (y1 + 1) := by omega
      have hG : (if (10000000 : Int64) < x1 then (10000000 : Int64) else x1) = G := hG
      refine lv_iload hx hb dX4_applied_12 (lv_at hl 3 rfl) ?_
      refine lv_iload hx hb dX4_applied_14 (lv_at hl 2 rfl) ?_
      refine lv_icmp_lt (tgt := 62) hx hb dX4_applied_16 (by decide) (fun _ => ?_) (fun q => absurd (dsc_exit (A := k1 * 20 + y1 + 1) (k := k12) (B := k1 * 20) (by omega) (by omega)) q)
      refine lv_lload_n hx hb dX4_applied_62 rfl (lv_at hl 1 rfl) ?_
      refine lv_ldc2 (v := (10000000 : Int64)) hx hb hown (hts _ (List.mem_of_getElem? (i := 10) rfl)) dX4_applied_63 ?_
      refine va_mmin_long hx hb (hml.trans hl.1.symm) hown (hts _ (List.mem_of_getElem? (i := 2) rfl)) (hts _ (List.mem_of_getElem? (i := 3) rfl)) (hts _ (List.mem_of_getElem? (i := 4) rfl)) (hts _ (List.mem_of_getElem? (i := 5) rfl)) (Nat.le_of_ble_eq_true rfl) (Nat.le_of_ble_eq_true rfl) (Nat.le_of_ble_eq_true rfl) (Nat.le_of_ble_eq_true rfl) dX4_applied_66 ?_
      exact xrlR hx hb hr hlocks dX4_applied_69 hG
    | succ n12 ih =>
      intro k12 hkn hG ls hl
      have hk : k12 < (y1 + 1) := by omega
      have hG : lbind ((if (cI τ 39 ((k1 * 20 + y1 + 1) - k12 - 1)) = (-1) then (Sum.inl ()) else (Sum.inr (if (0 : Int64) < ((if (cI τ 39 ((k1 * 20 + y1 + 1) - k12 - 1)).toInt64 < x1 then (cI τ 39 ((k1 * 20 + y1 + 1) - k12 - 1)).toInt64 else x1) - (cI τ 38 ((k1 * 20 + y1 + 1) - k12 - 1)).toInt64) then ((if (cI τ 39 ((k1 * 20 + y1 + 1) - k12 - 1)).toInt64 < x1 then (cI τ 39 ((k1 * 20 + y1 + 1) - k12 - 1)).toInt64 else x1) - (cI τ 38 ((k1 * 20 + y1 + 1) - k12 - 1)).toInt64) else (0 : Int64))))) (fun q => fX4_applied_L12 τ k1 y1 x1 n12 (k12 + 1)) = G := hG
      refine lv_iload hx hb dX4_applied_12 (lv_at hl 3 rfl) ?_
      refine lv_iload hx hb dX4_applied_14 (lv_at hl 2 rfl) ?_
      refine lv_icmp_lt (tgt := 62) hx hb dX4_applied_16 (by decide) (fun q => absurd q (dsc_stay (A := k1 * 20 + y1 + 1) (k := k12) (B := k1 * 20) (by omega) (by omega))) (fun _ => ?_)
      refine lv_aload_n hx hb dX4_applied_19 rfl (lv_at hl 0 rfl) ?_
      refine xget (C := RX4) (T := TX4) (N := 2) 1 hx hb hts hin4 hown I hR.f7 rfl (by decide) (List.mem_of_getElem? (i := 1) rfl) rfl rfl dX4_applied_20 ?_
      refine lv_iload hx hb dX4_applied_23 (lv_at hl 3 rfl) ?_
      refine xtop (y := .int (nI ((k1 * 20 + y1 + 1) - k12 - 1))) (congrArg Value.int (dsc_ix (by omega))) ?_
      refine xiald (i := ((k1 * 20 + y1 + 1) - k12 - 1)) (n := 80) hx hb I hR.f9 (by omega) (by decide) dX4_applied_25 ?_
      refine lv_iconst (v := (-1)) hx hb dX4_applied_26 (by decide) ?_
      refine lv_icmp_eq (tgt := 56) hx hb dX4_applied_27 (by decide) (fun c_27 => ?_) (fun c_27 => ?_)
      · skip
        rw [if_pos c_27] at hG
        refine lv_iinc (v := (nI ((k1 * 20 + y1 + 1) - (k12 + 1)) + (-1))) (lv' := [(6, .int (nI ((k1 * 20 + y1 + 1) - (k12 + 1)) + (-1))), (0, .ref (ad 7 0)), (3, .long x1), (5, .int (nI (k1 * 20)))]) hx hb dX4_applied_56 hl (k := 3) rfl (dsc_step (by omega)) (by decide) rfl (fun ls hl => ?_)
        refine lv_goto (tgt := 12) hx hb dX4_applied_59 (by decide) ?_
        exact ih (k12 + 1) (by first | omega | (simp only [cSI_N, cSL_N, cSM_N, cSD_N]; omega)) hG ls (lv_sub hl [1, 2, 3, 0] rfl)
      · skip
        rw [if_neg c_27] at hG
        refine lv_lload_n hx hb dX4_applied_30 rfl (lv_at hl 1 rfl) ?_
        refine lv_aload_n hx hb dX4_applied_31 rfl (lv_at hl 0 rfl) ?_
        refine xget (C := RX4) (T := TX4) (N := 2) 1 hx hb hts hin4 hown I hR.f7 rfl (by decide) (List.mem_of_getElem? (i := 1) rfl) rfl rfl dX4_applied_32 ?_
        refine lv_iload hx hb dX4_applied_35 (lv_at hl 3 rfl) ?_
        refine xtop (y := .int (nI ((k1 * 20 + y1 + 1) - k12 - 1))) (congrArg Value.int (dsc_ix (by omega))) ?_
        refine xiald (i := ((k1 * 20 + y1 + 1) - k12 - 1)) (n := 80) hx hb I hR.f9 (by omega) (by decide) dX4_applied_37 ?_
        refine lv_i2l (v := (cI τ 39 ((k1 * 20 + y1 + 1) - k12 - 1)).toInt64) hx hb dX4_applied_38 rfl ?_
        refine va_mmin_long hx hb (hml.trans hl.1.symm) hown (hts _ (List.mem_of_getElem? (i := 2) rfl)) (hts _ (List.mem_of_getElem? (i := 3) rfl)) (hts _ (List.mem_of_getElem? (i := 4) rfl)) (hts _ (List.mem_of_getElem? (i := 5) rfl)) (Nat.le_of_ble_eq_true rfl) (Nat.le_of_ble_eq_true rfl) (Nat.le_of_ble_eq_true rfl) (Nat.le_of_ble_eq_true rfl) dX4_applied_39 ?_
        refine lv_aload_n hx hb dX4_applied_42 rfl (lv_at hl 0 rfl) ?_
        refine xget (C := RX4) (T := TX4) (N := 2) 0 hx hb hts hin4 hown I hR.f7 rfl (by decide) (List.mem_of_getElem? (i := 6) rfl) rfl rfl dX4_applied_43 ?_
        refine lv_iload hx hb dX4_applied_46 (lv_at hl 3 rfl) ?_
        refine xtop (y := .int (nI ((k1 * 20 + y1 + 1) - k12 - 1))) (congrArg Value.int (dsc_ix (by omega))) ?_
        refine xiald (i := ((k1 * 20 + y1 + 1) - k12 - 1)) (n := 80) hx hb I hR.f8 (by omega) (by decide) dX4_applied_48 ?_
        refine lv_i2l (v := (cI τ 38 ((k1 * 20 + y1 + 1) - k12 - 1)).toInt64) hx hb dX4_applied_49 rfl ?_
        refine lv_lsub hx hb dX4_applied_50 ?_
        refine lv_lconst (v := (0 : Int64)) hx hb dX4_applied_51 rfl ?_
        refine va_mmax_long hx hb (hml.trans hl.1.symm) hown (hts _ (List.mem_of_getElem? (i := 7) rfl)) (hts _ (List.mem_of_getElem? (i := 8) rfl)) (hts _ (List.mem_of_getElem? (i := 4) rfl)) (hts _ (List.mem_of_getElem? (i := 9) rfl)) (Nat.le_of_ble_eq_true rfl) (Nat.le_of_ble_eq_true rfl) (Nat.le_of_ble_eq_true rfl) (Nat.le_of_ble_eq_true rfl) dX4_applied_52 ?_
        exact xrlR hx hb hr hlocks dX4_applied_55 hG
  exact L12 (y1 + 1) 0 (by omega) hG ls (lv_sub hl [2, 5, 1, 0] rfl)

def fX7_costOf_S13 (τ : CT) (e1 : Nat) (k13 : Nat) (a13_3 : Int64) : (Int64) := (if cK τ 13 k13 = e1 then (if (fX7_isFirstOfItsGroup τ k13) = 0 then a13_3 else (if (fX7_isCovered τ k13) = 0 then a13_3 else (a13_3 + (fX4_applied τ (cK τ 15 k13) ((cK τ 16 e1) / 100) (fX7_lossesOfGroup τ k13))))) else a13_3)
def fX7_costOf_L13 (τ : CT) (e1 : Nat) : Nat → Nat → Int64 → Int64
  | 0, k13, a13_3 => a13_3
  | n13 + 1, k13, a13_3 => lseq (fX7_costOf_S13 τ e1 k13 a13_3) (fun q => fX7_costOf_L13 τ e1 n13 (k13 + 1) q)
def fX7_costOf (τ : CT) (e1 : Nat) : Int64 := (fX7_costOf_L13 τ e1 (cN τ 3) 0 (0 : Int64))
set_option maxHeartbeats 4000000 in
set_option maxRecDepth 100000 in
theorem mX7_costOf (l : Launch) (lo : Nat) (D : va_G) (E : Nat → ClassId) (h : XW) (Pr : Nat → Prop) (τ : CT) (ad : Nat → Nat → Nat) (fa : Nat → Nat → Option Nat) (hR : RC E Pr τ ad fa h) (hW : CW τ) (e1 : Nat) (h_e1 : e1 < cN τ 4) : Met l yX7_costOf wsX7_costOf ({ frames := 3, cells := 0, slots := 0, locals := 70 } : Room) (xP lo D E h [.ref (ad 0 0), .ref (ad 17 e1)]) (xR (some (.long (fX7_costOf τ e1)))) 0 0 (fun _ => False) := by
  obtain ⟨G, hG⟩ : ∃ G, fX7_costOf τ e1 = G := ⟨_, rfl⟩
  rw [hG]
  unfold fX7_costOf at hG
  refine Met.ofW (cc := cX7_costOf) (maxL := 7) (ret := (some .long)) (by decide) rfl ?_
  intro p e s m args below meth c s₁ B hml hv
  obtain ⟨rfl, I⟩ := hv
  have hx := B.exec
  have hb := B.bytes
  have hr := B.returns
  have hts := atoms_spec (ws := wsX7_costOf) B.pre
  have hown : s.vm.findClass RX7 = some m.cls := findClass_of_methodNamed B.named
  have hlocks := B.notSynchronized
  have hl := lv_entry ([.ref (ad 0 0), .ref (ad 17 e1)] : List Value) (n := 7) (Nat.le_of_ble_eq_true rfl)
  rw [lg_entry_eq]
  generalize (lg_sl ([.ref (ad 0 0), .ref (ad 17 e1)] : List Value) ++ List.replicate (7 - (lg_sl ([.ref (ad 0 0), .ref (ad 17 e1)] : List Value)).length) Slot.unset).toArray = ls at hl ⊢
  have hl : lv_has ls 7 [(0, .ref (ad 0 0)), (1, .ref (ad 17 e1))] := hl
  have hin7 : ∀ w ∈ u_ws RX7 TX7 14, w ∈ wsX7_costOf := fun _ h => List.mem_cons_of_mem _ (List.mem_append_left _ (List.mem_append_left _ (List.mem_append_left _ (List.mem_append_left _ (List.mem_append_left _ (List.mem_append_left _ (List.mem_append_right _ (h))))))))
  have hin4 : ∀ w ∈ u_ws RX4 TX4 2, w ∈ wsX7_costOf := fun _ h => List.mem_cons_of_mem _ (List.mem_append_right _ (h))
  have hin3 : ∀ w ∈ u_ws RX3 TX3 5, w ∈ wsX7_costOf := fun _ h => List.mem_cons_of_mem _ (List.mem_append_left _ (List.mem_append_left _ (List.mem_append_right _ (h))))
  have hin5 : ∀ w ∈ u_ws RX5 TX5 4, w ∈ wsX7_costOf := fun _ h => List.mem_cons_of_mem _ (List.mem_append_left _ (List.mem_append_left _ (List.mem_append_left _ (List.mem_append_right _ (h)))))
  have hin1 : ∀ w ∈ u_ws RX1 TX1 3, w ∈ wsX7_costOf := fun _ h => List.mem_cons_of_mem _ (List.mem_append_left _ (List.mem_append_right _ (h)))
  have hin0 : ∀ w ∈ u_ws RX0 TX0 8, w ∈ wsX7_costOf := fun _ h => List.mem_cons_of_mem _ (List.mem_append_left _ (List.mem_append_left _ (List.mem_append_left _ (List.mem_append_left _ (List.mem_append_left _ (List.mem_append_right _ (h)))))))
  have hin2 : ∀ w ∈ u_ws RX2 TX2 3, w ∈ wsX7_costOf := fun _ h => List.mem_cons_of_mem _ (List.mem_append_left _ (List.mem_append_left _ (List.mem_append_left _ (List.mem_append_left _ (List.mem_append_left _ (List.mem_append_left _ (List.mem_append_left _ (List.mem_append_right _ (h)))))))))
  have hin6 : ∀ w ∈ u_ws RX6 TX6 7, w ∈ wsX7_costOf := fun _ h => List.mem_cons_of_mem _ (List.mem_append_left _ (List.mem_append_left _ (List.mem_append_left _ (List.mem_append_left _ (List.mem_append_right _ (h))))))
  have hW0 := hW
  obtain ⟨w0, -⟩ := id hW
  refine lv_aload_n hx hb dX7_costOf_0 rfl (lv_at hl 1 rfl) ?_
  refine xget (C := RX2) (T := TX2) (N := 3) 1 hx hb hts hin2 hown I (hR.f17 (show e1 < cN τ 4 by first | assumption | omega)) rfl (by decide) (List.mem_of_getElem? (i := 1) rfl) rfl rfl dX7_costOf_1 ?_
  have b1_16 : cK τ 16 e1 < 2000 := hW.2.2.2.2.2.2.2.1 e1 (show e1 < cN τ 4 by first | assumption | omega)
  refine xcsR (As := [.int (nI (cK τ 16 e1))]) (rest := []) (v := some (.int (nI ((cK τ 16 e1) / 100)))) ⟨hx, hb, hml, hown, hts⟩ (mX7_yearOfDay l lo D E h (cK τ 16 e1) (by first | assumption | omega)) (va_cwS 1 hts gX7_costOf_X7_yearOfDay rfl rfl rfl (by decide +kernel) ⟨Nat.le_of_ble_eq_true rfl, Nat.le_of_ble_eq_true rfl⟩) I rfl hl.1 rfl (Nat.le_of_ble_eq_true rfl) dX7_costOf_4 ⟨Nat.le_of_ble_eq_true rfl, Nat.le_of_ble_eq_true rfl⟩ ?_
  refine W.eq (g2 := F0 m 7 ls [.int (nI ((cK τ 16 e1) / 100))]) rfl ?_
  refine lv_istore_n (lv' := [(2, .int (nI ((cK τ 16 e1) / 100))), (0, .ref (ad 0 0)), (1, .ref (ad 17 e1))]) hx hb dX7_costOf_7 rfl hl (by decide) rfl (fun ls hl => ?_)
  refine lv_lconst (v := (0 : Int64)) hx hb dX7_costOf_8 rfl ?_
  refine lv_lstore_n (lv' := [(3, .long (0 : Int64)), (2, .int (nI ((cK τ 16 e1) / 100))), (0, .ref (ad 0 0)), (1, .ref (ad 17 e1))]) hx hb dX7_costOf_9 rfl hl (by decide) rfl (fun ls hl => ?_)
  refine lv_iconst (v := (nI 0)) hx hb dX7_costOf_10 (by decide) ?_
  refine lv_istore (lv' := [(5, .int (nI 0)), (3, .long (0 : Int64)), (2, .int (nI ((cK τ 16 e1) / 100))), (0, .ref (ad 0 0)), (1, .ref (ad 17 e1))]) hx hb dX7_costOf_11 hl (by decide) rfl (fun ls hl => ?_)
  have L13 : ∀ (n13 : Nat) (k13 : Nat) (a13_3 : Int64), k13 + n13 = cN τ 3 → fX7_costOf_L13 τ e1 n13 k13 a13_3 = G → ∀ ls : Array Slot, lv_has ls 7 [(0, .ref (ad 0 0)), (1, .ref (ad 17 e1)), (2, .int (nI ((cK τ 16 e1) / 100))), (3, .long a13_3), (5, .int (nI k13))] → W p l e (headSpec wsX7_costOf ({ frames := 3, cells := 0, slots := 0, locals := 70 } : Room)).room s m ([.ref (ad 0 0), .ref (ad 17 e1)] : List Value).toArray below meth c s.heap [] 0 0 (MQ below (xR (some (.long G))) ([.ref (ad 0 0), .ref (ad 17 e1)] : List Value).toArray s 0 0 (fun _ => False)) (F0 m 13 ls []) := by
    intro n13
    induction n13 with
    | zero =>
      intro k13 a13_3 hkn hG ls hl
      have hkN : k13 = cN τ 3 := by omega
      have hG : a13_3 = G := hG
      refine lv_iload hx hb dX7_costOf_13 (lv_at hl 4 rfl) ?_
      refine lv_aload_n hx hb dX7_costOf_15 rfl (lv_at hl 0 rfl) ?_
      refine xget (C := RX7) (T := TX7) (N := 14) 10 hx hb hts hin7 hown I hR.f0 rfl (by decide) (List.mem_of_getElem? (i := 2) rfl) rfl rfl dX7_costOf_16 ?_
      refine lv_icmp_ge (tgt := 86) hx hb dX7_costOf_19 (by decide) (fun _ => ?_) (fun q => absurd (nI_le (Nat.le_of_eq hkN.symm) (by omega)) q)
      refine lv_lload_n hx hb dX7_costOf_86 rfl (lv_at hl 3 rfl) ?_
      exact xrlR hx hb hr hlocks dX7_costOf_87 hG
    | succ n13 ih =>
      intro k13 a13_3 hkn hG ls hl
      have hk : k13 < cN τ 3 := by omega
      have hG : lseq ((if cK τ 13 k13 = e1 then (if (fX7_isFirstOfItsGroup τ k13) = 0 then a13_3 else (if (fX7_isCovered τ k13) = 0 then a13_3 else (a13_3 + (fX4_applied τ (cK τ 15 k13) ((cK τ 16 e1) / 100) (fX7_lossesOfGroup τ k13))))) else a13_3)) (fun q => fX7_costOf_L13 τ e1 n13 (k13 + 1) q) = G := hG
      refine lv_iload hx hb dX7_costOf_13 (lv_at hl 4 rfl) ?_
      refine lv_aload_n hx hb dX7_costOf_15 rfl (lv_at hl 0 rfl) ?_
      refine xget (C := RX7) (T := TX7) (N := 14) 10 hx hb hts hin7 hown I hR.f0 rfl (by decide) (List.mem_of_getElem? (i := 2) rfl) rfl rfl dX7_costOf_16 ?_
      refine lv_icmp_ge (tgt := 86) hx hb dX7_costOf_19 (by decide) (fun q => absurd q (nI_ge hk (by omega))) (fun _ => ?_)
      refine lv_aload_n hx hb dX7_costOf_22 rfl (lv_at hl 0 rfl) ?_
      refine xget (C := RX7) (T := TX7) (N := 14) 3 hx hb hts hin7 hown I hR.f0 rfl (by decide) (List.mem_of_getElem? (i := 3) rfl) rfl rfl dX7_costOf_23 ?_
      refine lv_iload hx hb dX7_costOf_26 (lv_at hl 4 rfl) ?_
      refine xaald (i := k13) (n := 60) 6 hx hb I rfl hR.f4 (by omega) (by decide) (hR.2.2.2.2.2.2.2.1 k13 (show k13 < cN τ 3 by first | assumption | omega)) dX7_costOf_28 ?_
      refine W.eq (g2 := F0 m 29 ls [.ref (ad 16 k13)]) rfl ?_
      refine lv_astore (lv' := [(6, .ref (ad 16 k13)), (0, .ref (ad 0 0)), (1, .ref (ad 17 e1)), (2, .int (nI ((cK τ 16 e1) / 100))), (3, .long a13_3), (5, .int (nI k13))]) hx hb dX7_costOf_29 hl (by decide) rfl (fun ls hl => ?_)
      refine lv_aload hx hb dX7_costOf_31 (lv_at hl 0 rfl) ?_
      refine xget (C := RX0) (T := TX0) (N := 8) 2 hx hb hts hin0 hown I (hR.f16 (show k13 < cN τ 3 by first | assumption | omega)) rfl (by decide) (List.mem_of_getElem? (i := 4) rfl) rfl rfl dX7_costOf_33 ?_
      have b33_13 : cK τ 13 k13 < cN τ 4 := hW.2.2.2.2.1 k13 (show k13 < cN τ 3 by first | assumption | omega)
      refine lv_aload_n hx hb dX7_costOf_36 rfl (lv_at hl 2 rfl) ?_
      refine xac_ne (tgt := 80) hx hb dX7_costOf_37 (by decide) (hR.eqi (show cK τ 13 k13 < cN τ 4 by first | assumption | omega) (show e1 < cN τ 4 by first | assumption | omega)) (fun c_37 => ?_) (fun c_37 => ?_)
      · skip
        rw [if_neg c_37] at hG
        refine lv_iinc (v := (nI (k13 + 1))) (lv' := [(5, .int (nI (k13 + 1))), (6, .ref (ad 16 k13)), (0, .ref (ad 0 0)), (1, .ref (ad 17 e1)), (2, .int (nI ((cK τ 16 e1) / 100))), (3, .long a13_3)]) hx hb dX7_costOf_80 hl (k := 5) rfl (nI_succ k13).symm (by decide) rfl (fun ls hl => ?_)
        refine lv_goto (tgt := 13) hx hb dX7_costOf_83 (by decide) ?_
        exact ih (k13 + 1) a13_3 (by first | omega | (simp only [cSI_N, cSL_N, cSM_N, cSD_N]; omega)) hG ls (lv_sub hl [2, 3, 4, 5, 0] rfl)
      · skip
        rw [if_pos c_37] at hG
        refine lv_aload_n hx hb dX7_costOf_40 rfl (lv_at hl 1 rfl) ?_
        refine lv_iload hx hb dX7_costOf_41 (lv_at hl 5 rfl) ?_
        refine xcvR (As := [.int (nI k13)]) (rest := []) (v := some (.int (fX7_isFirstOfItsGroup τ k13))) ⟨hx, hb, hml, hown, hts⟩ (mX7_isFirstOfItsGroup l lo D E h Pr τ ad fa hR hW k13 (by first | assumption | omega)) (cwV 1 hts gX7_costOf_X7_isFirstOfItsGroup rfl rfl rfl (by decide +kernel) ⟨Nat.le_of_ble_eq_true rfl, Nat.le_of_ble_eq_true rfl⟩) I hR.f0 rfl rfl hl.1 rfl (Nat.le_of_ble_eq_true rfl) dX7_costOf_43 ⟨Nat.le_of_ble_eq_true rfl, Nat.le_of_ble_eq_true rfl⟩ ?_
        refine W.eq (g2 := F0 m 46 ls [.int (fX7_isFirstOfItsGroup τ k13)]) rfl ?_
        refine lv_if_eq (tgt := 80) hx hb dX7_costOf_46 (by decide) (fun c_46 => ?_) (fun c_46 => ?_)
        · skip
          rw [if_pos c_46] at hG
          refine lv_iinc (v := (nI (k13 + 1))) (lv' := [(5, .int (nI (k13 + 1))), (6, .ref (ad 16 k13)), (0, .ref (ad 0 0)), (1, .ref (ad 17 e1)), (2, .int (nI ((cK τ 16 e1) / 100))), (3, .long a13_3)]) hx hb dX7_costOf_80 hl (k := 5) rfl (nI_succ k13).symm (by decide) rfl (fun ls hl => ?_)
          refine lv_goto (tgt := 13) hx hb dX7_costOf_83 (by decide) ?_
          exact ih (k13 + 1) a13_3 (by first | omega | (simp only [cSI_N, cSL_N, cSM_N, cSD_N]; omega)) hG ls (lv_sub hl [2, 3, 4, 5, 0] rfl)
        · skip
          rw [if_neg c_46] at hG
          refine lv_aload_n hx hb dX7_costOf_49 rfl (lv_at hl 1 rfl) ?_
          refine lv_aload hx hb dX7_costOf_50 (lv_at hl 0 rfl) ?_
          refine xcvR (As := [.ref (ad 16 k13)]) (rest := []) (v := some (.int (fX7_isCovered τ k13))) ⟨hx, hb, hml, hown, hts⟩ (mX7_isCovered l lo D E h Pr τ ad fa hR hW k13 (show k13 < cN τ 3 by first | assumption | omega)) (cwV 1 hts gX7_costOf_X7_isCovered rfl rfl rfl (by decide +kernel) ⟨Nat.le_of_ble_eq_true rfl, Nat.le_of_ble_eq_true rfl⟩) I hR.f0 rfl rfl hl.1 rfl (Nat.le_of_ble_eq_true rfl) dX7_costOf_52 ⟨Nat.le_of_ble_eq_true rfl, Nat.le_of_ble_eq_true rfl⟩ ?_
          refine W.eq (g2 := F0 m 55 ls [.int (fX7_isCovered τ k13)]) rfl ?_
          refine lv_if_eq (tgt := 80) hx hb dX7_costOf_55 (by decide) (fun c_55 => ?_) (fun c_55 => ?_)
          · skip
            rw [if_pos c_55] at hG
            refine lv_iinc (v := (nI (k13 + 1))) (lv' := [(5, .int (nI (k13 + 1))), (6, .ref (ad 16 k13)), (0, .ref (ad 0 0)), (1, .ref (ad 17 e1)), (2, .int (nI ((cK τ 16 e1) / 100))), (3, .long a13_3)]) hx hb dX7_costOf_80 hl (k := 5) rfl (nI_succ k13).symm (by decide) rfl (fun ls hl => ?_)
            refine lv_goto (tgt := 13) hx hb dX7_costOf_83 (by decide) ?_
            exact ih (k13 + 1) a13_3 (by first | omega | (simp only [cSI_N, cSL_N, cSM_N, cSD_N]; omega)) hG ls (lv_sub hl [2, 3, 4, 5, 0] rfl)
          · skip
            rw [if_neg c_55] at hG
            refine lv_lload_n hx hb dX7_costOf_58 rfl (lv_at hl 4 rfl) ?_
            refine lv_aload_n hx hb dX7_costOf_59 rfl (lv_at hl 1 rfl) ?_
            refine xget (C := RX7) (T := TX7) (N := 14) 6 hx hb hts hin7 hown I hR.f0 rfl (by decide) (List.mem_of_getElem? (i := 5) rfl) rfl rfl dX7_costOf_60 ?_
            refine lv_aload hx hb dX7_costOf_63 (lv_at hl 0 rfl) ?_
            refine xget (C := RX0) (T := TX0) (N := 8) 1 hx hb hts hin0 hown I (hR.f16 (show k13 < cN τ 3 by first | assumption | omega)) rfl (by decide) (List.mem_of_getElem? (i := 6) rfl) rfl rfl dX7_costOf_65 ?_
            have b65_15 : cK τ 15 k13 < 4 := hW.2.2.2.2.2.2.1 k13 (show k13 < cN τ 3 by first | assumption | omega)
            refine lv_iload_n hx hb dX7_costOf_68 rfl (lv_at hl 3 rfl) ?_
            refine lv_aload_n hx hb dX7_costOf_69 rfl (lv_at hl 1 rfl) ?_
            refine lv_iload hx hb dX7_costOf_70 (lv_at hl 5 rfl) ?_
            refine xcvR (As := [.int (nI k13)]) (rest := [.int (nI ((cK τ 16 e1) / 100)), .int (nI (cK τ 15 k13)), .ref (ad 7 0), .long a13_3]) (v := some (.long (fX7_lossesOfGroup τ k13))) ⟨hx, hb, hml, hown, hts⟩ (mX7_lossesOfGroup l lo D E h Pr τ ad fa hR hW k13 (by first | assumption | omega)) (cwV 1 hts gX7_costOf_X7_lossesOfGroup rfl rfl rfl (by decide +kernel) ⟨Nat.le_of_ble_eq_true rfl, Nat.le_of_ble_eq_true rfl⟩) I hR.f0 rfl rfl hl.1 rfl (Nat.le_of_ble_eq_true rfl) dX7_costOf_72 ⟨Nat.le_of_ble_eq_true rfl, Nat.le_of_ble_eq_true rfl⟩ ?_
            refine W.eq (g2 := F0 m 75 ls [.long (fX7_lossesOfGroup τ k13), .int (nI ((cK τ 16 e1) / 100)), .int (nI (cK τ 15 k13)), .ref (ad 7 0), .long a13_3]) rfl ?_
            refine xcvR (As := [.int (nI (cK τ 15 k13)), .int (nI ((cK τ 16 e1) / 100)), .long (fX7_lossesOfGroup τ k13)]) (rest := [.long a13_3]) (v := some (.long (fX4_applied τ (cK τ 15 k13) ((cK τ 16 e1) / 100) (fX7_lossesOfGroup τ k13)))) ⟨hx, hb, hml, hown, hts⟩ (mX4_applied l lo D E h Pr τ ad fa hR hW (cK τ 15 k13) ((cK τ 16 e1) / 100) (fX7_lossesOfGroup τ k13) (by first | assumption | omega) (by first | assumption | omega)) (cwV 3 hts gX7_costOf_X4_applied rfl rfl rfl (by decide +kernel) ⟨Nat.le_of_ble_eq_true rfl, Nat.le_of_ble_eq_true rfl⟩) I hR.f7 rfl rfl hl.1 rfl (Nat.le_of_ble_eq_true rfl) dX7_costOf_75 ⟨Nat.le_of_ble_eq_true rfl, Nat.le_of_ble_eq_true rfl⟩ ?_
            refine W.eq (g2 := F0 m 78 ls [.long (fX4_applied τ (cK τ 15 k13) ((cK τ 16 e1) / 100) (fX7_lossesOfGroup τ k13)), .long a13_3]) rfl ?_
            refine lv_ladd hx hb dX7_costOf_78 ?_
            refine lv_lstore_n (lv' := [(3, .long (a13_3 + (fX4_applied τ (cK τ 15 k13) ((cK τ 16 e1) / 100) (fX7_lossesOfGroup τ k13)))), (6, .ref (ad 16 k13)), (0, .ref (ad 0 0)), (1, .ref (ad 17 e1)), (2, .int (nI ((cK τ 16 e1) / 100))), (5, .int (nI k13))]) hx hb dX7_costOf_79 rfl hl (by decide) rfl (fun ls hl => ?_)
            refine lv_iinc (v := (nI (k13 + 1))) (lv' := [(5, .int (nI (k13 + 1))), (3, .long (a13_3 + (fX4_applied τ (cK τ 15 k13) ((cK τ 16 e1) / 100) (fX7_lossesOfGroup τ k13)))), (6, .ref (ad 16 k13)), (0, .ref (ad 0 0)), (1, .ref (ad 17 e1)), (2, .int (nI ((cK τ 16 e1) / 100)))]) hx hb dX7_costOf_80 hl (k := 5) rfl (nI_succ k13).symm (by decide) rfl (fun ls hl => ?_)
            refine lv_goto (tgt := 13) hx hb dX7_costOf_83 (by decide) ?_
            exact ih (k13 + 1) (a13_3 + (fX4_applied τ (cK τ 15 k13) ((cK τ 16 e1) / 100) (fX7_lossesOfGroup τ k13))) (by first | omega | (simp only [cSI_N, cSL_N, cSM_N, cSD_N]; omega)) hG ls (lv_sub hl [3, 4, 5, 1, 0] rfl)
  exact L13 (cN τ 3) 0 (0 : Int64) (by omega) hG ls (lv_sub hl [3, 4, 2, 1, 0] rfl)

def fX7_borneOf (τ : CT) (e1 : Nat) : Int64 := (fX6_borneOf τ ((cK τ 16 e1) / 100) (fX7_costOf τ e1))
set_option maxHeartbeats 4000000 in
set_option maxRecDepth 100000 in
theorem mX7_borneOf (l : Launch) (lo : Nat) (D : va_G) (E : Nat → ClassId) (h : XW) (Pr : Nat → Prop) (τ : CT) (ad : Nat → Nat → Nat) (fa : Nat → Nat → Option Nat) (hR : RC E Pr τ ad fa h) (hW : CW τ) (e1 : Nat) (h_e1 : e1 < cN τ 4) : Met l yX7_borneOf wsX7_borneOf ({ frames := 4, cells := 0, slots := 0, locals := 96 } : Room) (xP lo D E h [.ref (ad 0 0), .ref (ad 17 e1)]) (xR (some (.long (fX7_borneOf τ e1)))) 0 0 (fun _ => False) := by
  obtain ⟨G, hG⟩ : ∃ G, fX7_borneOf τ e1 = G := ⟨_, rfl⟩
  rw [hG]
  unfold fX7_borneOf at hG
  refine Met.ofW (cc := cX7_borneOf) (maxL := 2) (ret := (some .long)) (by decide) rfl ?_
  intro p e s m args below meth c s₁ B hml hv
  obtain ⟨rfl, I⟩ := hv
  have hx := B.exec
  have hb := B.bytes
  have hr := B.returns
  have hts := atoms_spec (ws := wsX7_borneOf) B.pre
  have hown : s.vm.findClass RX7 = some m.cls := findClass_of_methodNamed B.named
  have hlocks := B.notSynchronized
  have hl := lv_entry ([.ref (ad 0 0), .ref (ad 17 e1)] : List Value) (n := 2) (Nat.le_of_ble_eq_true rfl)
  rw [lg_entry_eq]
  generalize (lg_sl ([.ref (ad 0 0), .ref (ad 17 e1)] : List Value) ++ List.replicate (2 - (lg_sl ([.ref (ad 0 0), .ref (ad 17 e1)] : List Value)).length) Slot.unset).toArray = ls at hl ⊢
  have hl : lv_has ls 2 [(0, .ref (ad 0 0)), (1, .ref (ad 17 e1))] := hl
  have hin7 : ∀ w ∈ u_ws RX7 TX7 14, w ∈ wsX7_borneOf := fun _ h => List.mem_cons_of_mem _ (List.mem_append_left _ (List.mem_append_left _ (List.mem_append_left _ (List.mem_append_left _ (List.mem_append_left _ (List.mem_append_left _ (List.mem_append_left _ (List.mem_append_right _ (h)))))))))
  have hin4 : ∀ w ∈ u_ws RX4 TX4 2, w ∈ wsX7_borneOf := fun _ h => List.mem_cons_of_mem _ (List.mem_append_right _ (h))
  have hin3 : ∀ w ∈ u_ws RX3 TX3 5, w ∈ wsX7_borneOf := fun _ h => List.mem_cons_of_mem _ (List.mem_append_left _ (List.mem_append_left _ (List.mem_append_right _ (h))))
  have hin5 : ∀ w ∈ u_ws RX5 TX5 4, w ∈ wsX7_borneOf := fun _ h => List.mem_cons_of_mem _ (List.mem_append_left _ (List.mem_append_left _ (List.mem_append_left _ (List.mem_append_right _ (h)))))
  have hin1 : ∀ w ∈ u_ws RX1 TX1 3, w ∈ wsX7_borneOf := fun _ h => List.mem_cons_of_mem _ (List.mem_append_left _ (List.mem_append_right _ (h)))
  have hin0 : ∀ w ∈ u_ws RX0 TX0 8, w ∈ wsX7_borneOf := fun _ h => List.mem_cons_of_mem _ (List.mem_append_left _ (List.mem_append_left _ (List.mem_append_left _ (List.mem_append_left _ (List.mem_append_left _ (List.mem_append_right _ (h)))))))
  have hin2 : ∀ w ∈ u_ws RX2 TX2 3, w ∈ wsX7_borneOf := fun _ h => List.mem_cons_of_mem _ (List.mem_append_left _ (List.mem_append_left _ (List.mem_append_left _ (List.mem_append_left _ (List.mem_append_left _ (List.mem_append_left _ (List.mem_append_right _ (h))))))))
  have hin6 : ∀ w ∈ u_ws RX6 TX6 7, w ∈ wsX7_borneOf := fun _ h => List.mem_cons_of_mem _ (List.mem_append_left _ (List.mem_append_left _ (List.mem_append_left _ (List.mem_append_left _ (List.mem_append_right _ (h))))))
  have hW0 := hW
  obtain ⟨w0, -⟩ := id hW
  refine lv_aload_n hx hb dX7_borneOf_0 rfl (lv_at hl 0 rfl) ?_
  refine xget (C := RX7) (T := TX7) (N := 14) 5 hx hb hts hin7 hown I hR.f0 rfl (by decide) (List.mem_of_getElem? (i := 1) rfl) rfl rfl dX7_borneOf_1 ?_
  refine lv_aload_n hx hb dX7_borneOf_4 rfl (lv_at hl 1 rfl) ?_
  refine xget (C := RX2) (T := TX2) (N := 3) 1 hx hb hts hin2 hown I (hR.f17 (show e1 < cN τ 4 by first | assumption | omega)) rfl (by decide) (List.mem_of_getElem? (i := 2) rfl) rfl rfl dX7_borneOf_5 ?_
  have b5_16 : cK τ 16 e1 < 2000 := hW.2.2.2.2.2.2.2.1 e1 (show e1 < cN τ 4 by first | assumption | omega)
  refine xcsR (As := [.int (nI (cK τ 16 e1))]) (rest := [.ref (ad 6 0)]) (v := some (.int (nI ((cK τ 16 e1) / 100)))) ⟨hx, hb, hml, hown, hts⟩ (mX7_yearOfDay l lo D E h (cK τ 16 e1) (by first | assumption | omega)) (va_cwS 1 hts gX7_borneOf_X7_yearOfDay rfl rfl rfl (by decide +kernel) ⟨Nat.le_of_ble_eq_true rfl, Nat.le_of_ble_eq_true rfl⟩) I rfl hl.1 rfl (Nat.le_of_ble_eq_true rfl) dX7_borneOf_8 ⟨Nat.le_of_ble_eq_true rfl, Nat.le_of_ble_eq_true rfl⟩ ?_
  refine W.eq (g2 := F0 m 11 ls [.int (nI ((cK τ 16 e1) / 100)), .ref (ad 6 0)]) rfl ?_
  refine xaald (i := ((cK τ 16 e1) / 100)) (n := 20) 8 hx hb I rfl hR.f6 (by omega) (by decide) (hR.2.2.2.2.2.2.2.2.2 ((cK τ 16 e1) / 100) (show (cK τ 16 e1) / 100 < 20 by first | assumption | omega)) dX7_borneOf_11 ?_
  refine W.eq (g2 := F0 m 12 ls [.ref (ad 18 ((cK τ 16 e1) / 100))]) rfl ?_
  refine lv_aload_n hx hb dX7_borneOf_12 rfl (lv_at hl 0 rfl) ?_
  refine lv_aload_n hx hb dX7_borneOf_13 rfl (lv_at hl 1 rfl) ?_
  refine xcvR (As := [.ref (ad 17 e1)]) (rest := [.ref (ad 18 ((cK τ 16 e1) / 100))]) (v := some (.long (fX7_costOf τ e1))) ⟨hx, hb, hml, hown, hts⟩ (mX7_costOf l lo D E h Pr τ ad fa hR hW e1 (show e1 < cN τ 4 by first | assumption | omega)) (cwV 1 hts gX7_borneOf_X7_costOf rfl rfl rfl (by decide +kernel) ⟨Nat.le_of_ble_eq_true rfl, Nat.le_of_ble_eq_true rfl⟩) I hR.f0 rfl rfl hl.1 rfl (Nat.le_of_ble_eq_true rfl) dX7_borneOf_14 ⟨Nat.le_of_ble_eq_true rfl, Nat.le_of_ble_eq_true rfl⟩ ?_
  refine W.eq (g2 := F0 m 17 ls [.long (fX7_costOf τ e1), .ref (ad 18 ((cK τ 16 e1) / 100))]) rfl ?_
  refine xcvR (As := [.long (fX7_costOf τ e1)]) (rest := []) (v := some (.long (fX6_borneOf τ ((cK τ 16 e1) / 100) (fX7_costOf τ e1)))) ⟨hx, hb, hml, hown, hts⟩ (mX6_borneOf l lo D E h Pr τ ad fa hR hW ((cK τ 16 e1) / 100) (fX7_costOf τ e1) (show (cK τ 16 e1) / 100 < 20 by first | assumption | omega)) (cwV 1 hts gX7_borneOf_X6_borneOf rfl rfl rfl (by decide +kernel) ⟨Nat.le_of_ble_eq_true rfl, Nat.le_of_ble_eq_true rfl⟩) I (hR.f18 (show (cK τ 16 e1) / 100 < 20 by first | assumption | omega)) rfl rfl hl.1 rfl (Nat.le_of_ble_eq_true rfl) dX7_borneOf_17 ⟨Nat.le_of_ble_eq_true rfl, Nat.le_of_ble_eq_true rfl⟩ ?_
  refine W.eq (g2 := F0 m 20 ls [.long (fX6_borneOf τ ((cK τ 16 e1) / 100) (fX7_costOf τ e1))]) rfl ?_
  exact xrlR hx hb hr hlocks dX7_borneOf_20 hG

def fX7_costIn_S5 (τ : CT) (y1 : Int32) (k5 : Nat) (a5_2 : Int64) : (Int64) := (if (nI ((cK τ 16 k5) / 100)) = y1 then (a5_2 + (fX7_borneOf τ k5)) else a5_2)
def fX7_costIn_L5 (τ : CT) (y1 : Int32) : Nat → Nat → Int64 → Int64
  | 0, k5, a5_2 => a5_2
  | n5 + 1, k5, a5_2 => lseq (fX7_costIn_S5 τ y1 k5 a5_2) (fun q => fX7_costIn_L5 τ y1 n5 (k5 + 1) q)
def fX7_costIn (τ : CT) (y1 : Int32) : Int64 := (fX7_costIn_L5 τ y1 (cN τ 4) 0 (0 : Int64))
set_option maxHeartbeats 4000000 in
set_option maxRecDepth 100000 in
theorem mX7_costIn (l : Launch) (lo : Nat) (D : va_G) (E : Nat → ClassId) (h : XW) (Pr : Nat → Prop) (τ : CT) (ad : Nat → Nat → Nat) (fa : Nat → Nat → Option Nat) (hR : RC E Pr τ ad fa h) (hW : CW τ) (y1 : Int32) : Met l yX7_costIn wsX7_costIn ({ frames := 5, cells := 0, slots := 0, locals := 117 } : Room) (xP lo D E h [.ref (ad 0 0), .int y1]) (xR (some (.long (fX7_costIn τ y1)))) 0 0 (fun _ => False) := by
  obtain ⟨G, hG⟩ : ∃ G, fX7_costIn τ y1 = G := ⟨_, rfl⟩
  rw [hG]
  unfold fX7_costIn at hG
  refine Met.ofW (cc := cX7_costIn) (maxL := 5) (ret := (some .long)) (by decide) rfl ?_
  intro p e s m args below meth c s₁ B hml hv
  obtain ⟨rfl, I⟩ := hv
  have hx := B.exec
  have hb := B.bytes
  have hr := B.returns
  have hts := atoms_spec (ws := wsX7_costIn) B.pre
  have hown : s.vm.findClass RX7 = some m.cls := findClass_of_methodNamed B.named
  have hlocks := B.notSynchronized
  have hl := lv_entry ([.ref (ad 0 0), .int y1] : List Value) (n := 5) (Nat.le_of_ble_eq_true rfl)
  rw [lg_entry_eq]
  generalize (lg_sl ([.ref (ad 0 0), .int y1] : List Value) ++ List.replicate (5 - (lg_sl ([.ref (ad 0 0), .int y1] : List Value)).length) Slot.unset).toArray = ls at hl ⊢
  have hl : lv_has ls 5 [(0, .ref (ad 0 0)), (1, .int y1)] := hl
  have hin7 : ∀ w ∈ u_ws RX7 TX7 14, w ∈ wsX7_costIn := fun _ h => List.mem_cons_of_mem _ (List.mem_append_left _ (List.mem_append_left _ (List.mem_append_left _ (List.mem_append_left _ (List.mem_append_left _ (List.mem_append_left _ (List.mem_append_left _ (List.mem_append_right _ (h)))))))))
  have hin4 : ∀ w ∈ u_ws RX4 TX4 2, w ∈ wsX7_costIn := fun _ h => List.mem_cons_of_mem _ (List.mem_append_right _ (h))
  have hin3 : ∀ w ∈ u_ws RX3 TX3 5, w ∈ wsX7_costIn := fun _ h => List.mem_cons_of_mem _ (List.mem_append_left _ (List.mem_append_left _ (List.mem_append_right _ (h))))
  have hin5 : ∀ w ∈ u_ws RX5 TX5 4, w ∈ wsX7_costIn := fun _ h => List.mem_cons_of_mem _ (List.mem_append_left _ (List.mem_append_left _ (List.mem_append_left _ (List.mem_append_right _ (h)))))
  have hin1 : ∀ w ∈ u_ws RX1 TX1 3, w ∈ wsX7_costIn := fun _ h => List.mem_cons_of_mem _ (List.mem_append_left _ (List.mem_append_right _ (h)))
  have hin0 : ∀ w ∈ u_ws RX0 TX0 8, w ∈ wsX7_costIn := fun _ h => List.mem_cons_of_mem _ (List.mem_append_left _ (List.mem_append_left _ (List.mem_append_left _ (List.mem_append_left _ (List.mem_append_left _ (List.mem_append_right _ (h)))))))
  have hin2 : ∀ w ∈ u_ws RX2 TX2 3, w ∈ wsX7_costIn := fun _ h => List.mem_cons_of_mem _ (List.mem_append_left _ (List.mem_append_left _ (List.mem_append_left _ (List.mem_append_left _ (List.mem_append_left _ (List.mem_append_left _ (List.mem_append_right _ (h))))))))
  have hin6 : ∀ w ∈ u_ws RX6 TX6 7, w ∈ wsX7_costIn := fun _ h => List.mem_cons_of_mem _ (List.mem_append_left _ (List.mem_append_left _ (List.mem_append_left _ (List.mem_append_left _ (List.mem_append_right _ (h))))))
  have hW0 := hW
  obtain ⟨w0, -⟩ := id hW
  refine lv_lconst (v := (0 : Int64)) hx hb dX7_costIn_0 rfl ?_
  refine lv_lstore_n (lv' := [(2, .long (0 : Int64)), (0, .ref (ad 0 0)), (1, .int y1)]) hx hb dX7_costIn_1 rfl hl (by decide) rfl (fun ls hl => ?_)
  refine lv_iconst (v := (nI 0)) hx hb dX7_costIn_2 (by decide) ?_
  refine lv_istore (lv' := [(4, .int (nI 0)), (2, .long (0 : Int64)), (0, .ref (ad 0 0)), (1, .int y1)]) hx hb dX7_costIn_3 hl (by decide) rfl (fun ls hl => ?_)
  have L5 : ∀ (n5 : Nat) (k5 : Nat) (a5_2 : Int64), k5 + n5 = cN τ 4 → fX7_costIn_L5 τ y1 n5 k5 a5_2 = G → ∀ ls : Array Slot, lv_has ls 5 [(0, .ref (ad 0 0)), (1, .int y1), (2, .long a5_2), (4, .int (nI k5))] → W p l e (headSpec wsX7_costIn ({ frames := 5, cells := 0, slots := 0, locals := 117 } : Room)).room s m ([.ref (ad 0 0), .int y1] : List Value).toArray below meth c s.heap [] 0 0 (MQ below (xR (some (.long G))) ([.ref (ad 0 0), .int y1] : List Value).toArray s 0 0 (fun _ => False)) (F0 m 5 ls []) := by
    intro n5
    induction n5 with
    | zero =>
      intro k5 a5_2 hkn hG ls hl
      have hkN : k5 = cN τ 4 := by omega
      have hG : a5_2 = G := hG
      refine lv_iload hx hb dX7_costIn_5 (lv_at hl 3 rfl) ?_
      refine lv_aload_n hx hb dX7_costIn_7 rfl (lv_at hl 0 rfl) ?_
      refine xget (C := RX7) (T := TX7) (N := 14) 11 hx hb hts hin7 hown I hR.f0 rfl (by decide) (List.mem_of_getElem? (i := 1) rfl) rfl rfl dX7_costIn_8 ?_
      refine lv_icmp_ge (tgt := 51) hx hb dX7_costIn_11 (by decide) (fun _ => ?_) (fun q => absurd (nI_le (Nat.le_of_eq hkN.symm) (by omega)) q)
      refine lv_lload_n hx hb dX7_costIn_51 rfl (lv_at hl 2 rfl) ?_
      exact xrlR hx hb hr hlocks dX7_costIn_52 hG
    | succ n5 ih =>
      intro k5 a5_2 hkn hG ls hl
      have hk : k5 < cN τ 4 := by omega
      have hG : lseq ((if (nI ((cK τ 16 k5) / 100)) = y1 then (a5_2 + (fX7_borneOf τ k5)) else a5_2)) (fun q => fX7_costIn_L5 τ y1 n5 (k5 + 1) q) = G := hG
      refine lv_iload hx hb dX7_costIn_5 (lv_at hl 3 rfl) ?_
      refine lv_aload_n hx hb dX7_costIn_7 rfl (lv_at hl 0 rfl) ?_
      refine xget (C := RX7) (T := TX7) (N := 14) 11 hx hb hts hin7 hown I hR.f0 rfl (by decide) (List.mem_of_getElem? (i := 1) rfl) rfl rfl dX7_costIn_8 ?_
      refine lv_icmp_ge (tgt := 51) hx hb dX7_costIn_11 (by decide) (fun q => absurd q (nI_ge hk (by omega))) (fun _ => ?_)
      refine lv_aload_n hx hb dX7_costIn_14 rfl (lv_at hl 0 rfl) ?_
      refine xget (C := RX7) (T := TX7) (N := 14) 4 hx hb hts hin7 hown I hR.f0 rfl (by decide) (List.mem_of_getElem? (i := 2) rfl) rfl rfl dX7_costIn_15 ?_
      refine lv_iload hx hb dX7_costIn_18 (lv_at hl 3 rfl) ?_
      refine xaald (i := k5) (n := 60) 7 hx hb I rfl hR.f5 (by omega) (by decide) (hR.2.2.2.2.2.2.2.2.1 k5 (show k5 < cN τ 4 by first | assumption | omega)) dX7_costIn_20 ?_
      refine W.eq (g2 := F0 m 21 ls [.ref (ad 17 k5)]) rfl ?_
      refine xget (C := RX2) (T := TX2) (N := 3) 1 hx hb hts hin2 hown I (hR.f17 (show k5 < cN τ 4 by first | assumption | omega)) rfl (by decide) (List.mem_of_getElem? (i := 3) rfl) rfl rfl dX7_costIn_21 ?_
      have b21_16 : cK τ 16 k5 < 2000 := hW.2.2.2.2.2.2.2.1 k5 (show k5 < cN τ 4 by first | assumption | omega)
      refine xcsR (As := [.int (nI (cK τ 16 k5))]) (rest := []) (v := some (.int (nI ((cK τ 16 k5) / 100)))) ⟨hx, hb, hml, hown, hts⟩ (mX7_yearOfDay l lo D E h (cK τ 16 k5) (by first | assumption | omega)) (va_cwS 1 hts gX7_costIn_X7_yearOfDay rfl rfl rfl (by decide +kernel) ⟨Nat.le_of_ble_eq_true rfl, Nat.le_of_ble_eq_true rfl⟩) I rfl hl.1 rfl (Nat.le_of_ble_eq_true rfl) dX7_costIn_24 ⟨Nat.le_of_ble_eq_true rfl, Nat.le_of_ble_eq_true rfl⟩ ?_
      refine W.eq (g2 := F0 m 27 ls [.int (nI ((cK τ 16 k5) / 100))]) rfl ?_
      refine lv_iload_n hx hb dX7_costIn_27 rfl (lv_at hl 1 rfl) ?_
      refine lv_icmp_ne (tgt := 45) hx hb dX7_costIn_28 (by decide) (fun c_28 => ?_) (fun c_28 => ?_)
      · skip
        rw [if_neg c_28] at hG
        refine lv_iinc (v := (nI (k5 + 1))) (lv' := [(4, .int (nI (k5 + 1))), (0, .ref (ad 0 0)), (1, .int y1), (2, .long a5_2)]) hx hb dX7_costIn_45 hl (k := 3) rfl (nI_succ k5).symm (by decide) rfl (fun ls hl => ?_)
        refine lv_goto (tgt := 5) hx hb dX7_costIn_48 (by decide) ?_
        exact ih (k5 + 1) a5_2 (by first | omega | (simp only [cSI_N, cSL_N, cSM_N, cSD_N]; omega)) hG ls (lv_sub hl [1, 2, 3, 0] rfl)
      · skip
        rw [if_pos c_28] at hG
        refine lv_lload_n hx hb dX7_costIn_31 rfl (lv_at hl 2 rfl) ?_
        refine lv_aload_n hx hb dX7_costIn_32 rfl (lv_at hl 0 rfl) ?_
        refine lv_aload_n hx hb dX7_costIn_33 rfl (lv_at hl 0 rfl) ?_
        refine xget (C := RX7) (T := TX7) (N := 14) 4 hx hb hts hin7 hown I hR.f0 rfl (by decide) (List.mem_of_getElem? (i := 2) rfl) rfl rfl dX7_costIn_34 ?_
        refine lv_iload hx hb dX7_costIn_37 (lv_at hl 3 rfl) ?_
        refine xaald (i := k5) (n := 60) 7 hx hb I rfl hR.f5 (by omega) (by decide) (hR.2.2.2.2.2.2.2.2.1 k5 (show k5 < cN τ 4 by first | assumption | omega)) dX7_costIn_39 ?_
        refine W.eq (g2 := F0 m 40 ls [.ref (ad 17 k5), .ref (ad 0 0), .long a5_2]) rfl ?_
        refine xcvR (As := [.ref (ad 17 k5)]) (rest := [.long a5_2]) (v := some (.long (fX7_borneOf τ k5))) ⟨hx, hb, hml, hown, hts⟩ (mX7_borneOf l lo D E h Pr τ ad fa hR hW k5 (show k5 < cN τ 4 by first | assumption | omega)) (cwV 1 hts gX7_costIn_X7_borneOf rfl rfl rfl (by decide +kernel) ⟨Nat.le_of_ble_eq_true rfl, Nat.le_of_ble_eq_true rfl⟩) I hR.f0 rfl rfl hl.1 rfl (Nat.le_of_ble_eq_true rfl) dX7_costIn_40 ⟨Nat.le_of_ble_eq_true rfl, Nat.le_of_ble_eq_true rfl⟩ ?_
        refine W.eq (g2 := F0 m 43 ls [.long (fX7_borneOf τ k5), .long a5_2]) rfl ?_
        refine lv_ladd hx hb dX7_costIn_43 ?_
        refine lv_lstore_n (lv' := [(2, .long (a5_2 + (fX7_borneOf τ k5))), (0, .ref (ad 0 0)), (1, .int y1), (4, .int (nI k5))]) hx hb dX7_costIn_44 rfl hl (by decide) rfl (fun ls hl => ?_)
        refine lv_iinc (v := (nI (k5 + 1))) (lv' := [(4, .int (nI (k5 + 1))), (2, .long (a5_2 + (fX7_borneOf τ k5))), (0, .ref (ad 0 0)), (1, .int y1)]) hx hb dX7_costIn_45 hl (k := 3) rfl (nI_succ k5).symm (by decide) rfl (fun ls hl => ?_)
        refine lv_goto (tgt := 5) hx hb dX7_costIn_48 (by decide) ?_
        exact ih (k5 + 1) (a5_2 + (fX7_borneOf τ k5)) (by first | omega | (simp only [cSI_N, cSL_N, cSM_N, cSD_N]; omega)) hG ls (lv_sub hl [2, 3, 1, 0] rfl)
  exact L5 (cN τ 4) 0 (0 : Int64) (by omega) hG ls (lv_sub hl [2, 3, 1, 0] rfl)

def fX7_advanceOf (τ : CT) (m1 : Nat) (y1 : Nat) : Int64 := (((fX7_weightIn τ m1 y1) * (cI τ 31 y1).toInt64) / (1000 : Int64))
set_option maxHeartbeats 4000000 in
set_option maxRecDepth 100000 in
theorem mX7_advanceOf (l : Launch) (lo : Nat) (D : va_G) (E : Nat → ClassId) (h : XW) (Pr : Nat → Prop) (τ : CT) (ad : Nat → Nat → Nat) (fa : Nat → Nat → Option Nat) (hR : RC E Pr τ ad fa h) (hW : CW τ) (m1 : Nat) (y1 : Nat) (h_m1 : m1 < cN τ 0) (hy : y1 < 20) : Met l yX7_advanceOf wsX7_advanceOf ({ frames := 3, cells := 0, slots := 0, locals := 75 } : Room) (xP lo D E h [.ref (ad 0 0), .ref (ad 10 m1), .int (nI y1)]) (xR (some (.long (fX7_advanceOf τ m1 y1)))) 0 0 (fun _ => False) := by
  obtain ⟨G, hG⟩ : ∃ G, fX7_advanceOf τ m1 y1 = G := ⟨_, rfl⟩
  rw [hG]
  unfold fX7_advanceOf at hG
  refine Met.ofW (cc := cX7_advanceOf) (maxL := 3) (ret := (some .long)) (by decide) rfl ?_
  intro p e s m args below meth c s₁ B hml hv
  obtain ⟨rfl, I⟩ := hv
  have hx := B.exec
  have hb := B.bytes
  have hr := B.returns
  have hts := atoms_spec (ws := wsX7_advanceOf) B.pre
  have hown : s.vm.findClass RX7 = some m.cls := findClass_of_methodNamed B.named
  have hlocks := B.notSynchronized
  have hl := lv_entry ([.ref (ad 0 0), .ref (ad 10 m1), .int (nI y1)] : List Value) (n := 3) (Nat.le_of_ble_eq_true rfl)
  rw [lg_entry_eq]
  generalize (lg_sl ([.ref (ad 0 0), .ref (ad 10 m1), .int (nI y1)] : List Value) ++ List.replicate (3 - (lg_sl ([.ref (ad 0 0), .ref (ad 10 m1), .int (nI y1)] : List Value)).length) Slot.unset).toArray = ls at hl ⊢
  have hl : lv_has ls 3 [(0, .ref (ad 0 0)), (1, .ref (ad 10 m1)), (2, .int (nI y1))] := hl
  have hin7 : ∀ w ∈ u_ws RX7 TX7 14, w ∈ wsX7_advanceOf := fun _ h => List.mem_cons_of_mem _ (List.mem_append_left _ (List.mem_append_left _ (List.mem_append_left _ (List.mem_append_left _ (List.mem_append_right _ (h))))))
  have hin3 : ∀ w ∈ u_ws RX3 TX3 5, w ∈ wsX7_advanceOf := fun _ h => List.mem_cons_of_mem _ (List.mem_append_right _ (h))
  have hin5 : ∀ w ∈ u_ws RX5 TX5 4, w ∈ wsX7_advanceOf := fun _ h => List.mem_cons_of_mem _ (List.mem_append_left _ (List.mem_append_right _ (h)))
  have hin1 : ∀ w ∈ u_ws RX1 TX1 3, w ∈ wsX7_advanceOf := fun _ h => List.mem_cons_of_mem _ (List.mem_append_left _ (List.mem_append_left _ (List.mem_append_right _ (h))))
  have hin6 : ∀ w ∈ u_ws RX6 TX6 7, w ∈ wsX7_advanceOf := fun _ h => List.mem_cons_of_mem _ (List.mem_append_left _ (List.mem_append_left _ (List.mem_append_left _ (List.mem_append_right _ (h)))))
  have hW0 := hW
  obtain ⟨w0, -⟩ := id hW
  refine lv_aload_n hx hb dX7_advanceOf_0 rfl (lv_at hl 0 rfl) ?_
  refine lv_aload_n hx hb dX7_advanceOf_1 rfl (lv_at hl 1 rfl) ?_
  refine lv_iload_n hx hb dX7_advanceOf_2 rfl (lv_at hl 2 rfl) ?_
  refine xcvR (As := [.ref (ad 10 m1), .int (nI y1)]) (rest := []) (v := some (.long (fX7_weightIn τ m1 y1))) ⟨hx, hb, hml, hown, hts⟩ (mX7_weightIn l lo D E h Pr τ ad fa hR hW m1 y1 (show m1 < cN τ 0 by first | assumption | omega) (by first | assumption | omega)) (cwV 2 hts gX7_advanceOf_X7_weightIn rfl rfl rfl (by decide +kernel) ⟨Nat.le_of_ble_eq_true rfl, Nat.le_of_ble_eq_true rfl⟩) I hR.f0 rfl rfl hl.1 rfl (Nat.le_of_ble_eq_true rfl) dX7_advanceOf_3 ⟨Nat.le_of_ble_eq_true rfl, Nat.le_of_ble_eq_true rfl⟩ ?_
  refine W.eq (g2 := F0 m 6 ls [.long (fX7_weightIn τ m1 y1)]) rfl ?_
  refine lv_aload_n hx hb dX7_advanceOf_6 rfl (lv_at hl 0 rfl) ?_
  refine xget (C := RX7) (T := TX7) (N := 14) 5 hx hb hts hin7 hown I hR.f0 rfl (by decide) (List.mem_of_getElem? (i := 1) rfl) rfl rfl dX7_advanceOf_7 ?_
  refine lv_iload_n hx hb dX7_advanceOf_10 rfl (lv_at hl 2 rfl) ?_
  refine xaald (i := y1) (n := 20) 8 hx hb I rfl hR.f6 (by omega) (by decide) (hR.2.2.2.2.2.2.2.2.2 y1 (show y1 < 20 by first | assumption | omega)) dX7_advanceOf_11 ?_
  refine W.eq (g2 := F0 m 12 ls [.ref (ad 18 y1), .long (fX7_weightIn τ m1 y1)]) rfl ?_
  refine xget (C := RX6) (T := TX6) (N := 7) 0 hx hb hts hin6 hown I (hR.f18 (show y1 < 20 by first | assumption | omega)) rfl (by decide) (List.mem_of_getElem? (i := 2) rfl) rfl rfl dX7_advanceOf_12 ?_
  refine lv_i2l (v := (cI τ 31 y1).toInt64) hx hb dX7_advanceOf_15 rfl ?_
  refine lv_lmul hx hb dX7_advanceOf_16 ?_
  refine lv_ldc2 (v := (1000 : Int64)) hx hb hown (hts _ (List.mem_of_getElem? (i := 3) rfl)) dX7_advanceOf_17 ?_
  refine lv_ldiv hx hb dX7_advanceOf_20 (by decide) ?_
  exact xrlR hx hb hr hlocks dX7_advanceOf_21 hG

def fX7_dueOf_B21 (τ : CT) (m1 : Nat) (y1 : Nat) : Int64 := (cD τ m1 y1)
def fX7_dueOf (τ : CT) (m1 : Nat) (y1 : Nat) : Int64 := (if (cI τ 33 y1) = 0 then (if (cM τ 1 m1 y1) = 0 then ((fX7_advanceOf τ m1 y1) + (((fX7_advanceOf τ m1 y1) * (cI τ 32 y1).toInt64) / (100 : Int64))) else (fX7_dueOf_B21 τ m1 y1)) else (fX7_dueOf_B21 τ m1 y1))
set_option maxHeartbeats 4000000 in
set_option maxRecDepth 100000 in
theorem mX7_dueOf (l : Launch) (lo : Nat) (D : va_G) (E : Nat → ClassId) (h : XW) (Pr : Nat → Prop) (τ : CT) (ad : Nat → Nat → Nat) (fa : Nat → Nat → Option Nat) (hR : RC E Pr τ ad fa h) (hW : CW τ) (m1 : Nat) (y1 : Nat) (h_m1 : m1 < cN τ 0) (hy : y1 < 20) : Met l yX7_dueOf wsX7_dueOf ({ frames := 4, cells := 0, slots := 0, locals := 97 } : Room) (xP lo D E h [.ref (ad 0 0), .ref (ad 10 m1), .int (nI y1)]) (xR (some (.long (fX7_dueOf τ m1 y1)))) 0 0 (fun _ => False) := by
  obtain ⟨G, hG⟩ : ∃ G, fX7_dueOf τ m1 y1 = G := ⟨_, rfl⟩
  rw [hG]
  unfold fX7_dueOf at hG
  refine Met.ofW (cc := cX7_dueOf) (maxL := 5) (ret := (some .long)) (by decide) rfl ?_
  intro p e s m args below meth c s₁ B hml hv
  obtain ⟨rfl, I⟩ := hv
  have hx := B.exec
  have hb := B.bytes
  have hr := B.returns
  have hts := atoms_spec (ws := wsX7_dueOf) B.pre
  have hown : s.vm.findClass RX7 = some m.cls := findClass_of_methodNamed B.named
  have hlocks := B.notSynchronized
  have hl := lv_entry ([.ref (ad 0 0), .ref (ad 10 m1), .int (nI y1)] : List Value) (n := 5) (Nat.le_of_ble_eq_true rfl)
  rw [lg_entry_eq]
  generalize (lg_sl ([.ref (ad 0 0), .ref (ad 10 m1), .int (nI y1)] : List Value) ++ List.replicate (5 - (lg_sl ([.ref (ad 0 0), .ref (ad 10 m1), .int (nI y1)] : List Value)).length) Slot.unset).toArray = ls at hl ⊢
  have hl : lv_has ls 5 [(0, .ref (ad 0 0)), (1, .ref (ad 10 m1)), (2, .int (nI y1))] := hl
  have hin7 : ∀ w ∈ u_ws RX7 TX7 14, w ∈ wsX7_dueOf := fun _ h => List.mem_cons_of_mem _ (List.mem_append_left _ (List.mem_append_left _ (List.mem_append_left _ (List.mem_append_left _ (List.mem_append_right _ (h))))))
  have hin3 : ∀ w ∈ u_ws RX3 TX3 5, w ∈ wsX7_dueOf := fun _ h => List.mem_cons_of_mem _ (List.mem_append_left _ (List.mem_append_left _ (List.mem_append_right _ (h))))
  have hin5 : ∀ w ∈ u_ws RX5 TX5 4, w ∈ wsX7_dueOf := fun _ h => List.mem_cons_of_mem _ (List.mem_append_right _ (h))
  have hin1 : ∀ w ∈ u_ws RX1 TX1 3, w ∈ wsX7_dueOf := fun _ h => List.mem_cons_of_mem _ (List.mem_append_left _ (List.mem_append_right _ (h)))
  have hin6 : ∀ w ∈ u_ws RX6 TX6 7, w ∈ wsX7_dueOf := fun _ h => List.mem_cons_of_mem _ (List.mem_append_left _ (List.mem_append_left _ (List.mem_append_left _ (List.mem_append_right _ (h)))))
  have hW0 := hW
  obtain ⟨w0, -⟩ := id hW
  refine lv_aload_n hx hb dX7_dueOf_0 rfl (lv_at hl 0 rfl) ?_
  refine xget (C := RX7) (T := TX7) (N := 14) 5 hx hb hts hin7 hown I hR.f0 rfl (by decide) (List.mem_of_getElem? (i := 1) rfl) rfl rfl dX7_dueOf_1 ?_
  refine lv_iload_n hx hb dX7_dueOf_4 rfl (lv_at hl 2 rfl) ?_
  refine xaald (i := y1) (n := 20) 8 hx hb I rfl hR.f6 (by omega) (by decide) (hR.2.2.2.2.2.2.2.2.2 y1 (show y1 < 20 by first | assumption | omega)) dX7_dueOf_5 ?_
  refine W.eq (g2 := F0 m 6 ls [.ref (ad 18 y1)]) rfl ?_
  refine xget (C := RX6) (T := TX6) (N := 7) 2 hx hb hts hin6 hown I (hR.f18 (show y1 < 20 by first | assumption | omega)) rfl (by decide) (List.mem_of_getElem? (i := 2) rfl) rfl rfl dX7_dueOf_6 ?_
  have B21 : fX7_dueOf_B21 τ m1 y1 = G → ∀ ls : Array Slot, lv_has ls 5 [(1, .ref (ad 10 m1)), (2, .int (nI y1))] → W p l e (headSpec wsX7_dueOf ({ frames := 4, cells := 0, slots := 0, locals := 97 } : Room)).room s m ([.ref (ad 0 0), .ref (ad 10 m1), .int (nI y1)] : List Value).toArray below meth c s.heap [] 0 0 (MQ below (xR (some (.long G))) ([.ref (ad 0 0), .ref (ad 10 m1), .int (nI y1)] : List Value).toArray s 0 0 (fun _ => False)) (F0 m 21 ls []) := by
    intro hG ls hl
    unfold fX7_dueOf_B21 at hG
    refine lv_aload_n hx hb dX7_dueOf_21 rfl (lv_at hl 0 rfl) ?_
    refine xget (C := RX3) (T := TX3) (N := 5) 2 hx hb hts hin3 hown I (hR.f10 (show m1 < cN τ 0 by first | assumption | omega)) rfl (by decide) (List.mem_of_getElem? (i := 4) rfl) rfl rfl dX7_dueOf_22 ?_
    refine lv_iload_n hx hb dX7_dueOf_25 rfl (lv_at hl 1 rfl) ?_
    refine xlald (i := y1) (n := 20) hx hb I (hR.f13 (show m1 < cN τ 0 by first | assumption | omega)) (by omega) (by decide) dX7_dueOf_26 ?_
    exact xrlR hx hb hr hlocks dX7_dueOf_27 hG
  refine lv_if_ne (tgt := 21) hx hb dX7_dueOf_9 (by decide) (fun c_9 => ?_) (fun c_9 => ?_)
  · skip
    rw [if_neg c_9] at hG
    exact B21 hG ls (lv_sub hl [1, 2] rfl)
  · skip
    rw [if_pos c_9] at hG
    refine lv_aload_n hx hb dX7_dueOf_12 rfl (lv_at hl 1 rfl) ?_
    refine xget (C := RX3) (T := TX3) (N := 5) 1 hx hb hts hin3 hown I (hR.f10 (show m1 < cN τ 0 by first | assumption | omega)) rfl (by decide) (List.mem_of_getElem? (i := 3) rfl) rfl rfl dX7_dueOf_13 ?_
    refine lv_iload_n hx hb dX7_dueOf_16 rfl (lv_at hl 2 rfl) ?_
    refine xzald (i := y1) (n := 20) hx hb I (hR.f12 (show m1 < cN τ 0 by first | assumption | omega)) (by omega) (by decide) dX7_dueOf_17 ?_
    refine lv_if_eq (tgt := 28) hx hb dX7_dueOf_18 (by decide) (fun c_18 => ?_) (fun c_18 => ?_)
    · skip
      rw [if_pos c_18] at hG
      refine lv_aload_n hx hb dX7_dueOf_28 rfl (lv_at hl 0 rfl) ?_
      refine lv_aload_n hx hb dX7_dueOf_29 rfl (lv_at hl 1 rfl) ?_
      refine lv_iload_n hx hb dX7_dueOf_30 rfl (lv_at hl 2 rfl) ?_
      refine xcvR (As := [.ref (ad 10 m1), .int (nI y1)]) (rest := []) (v := some (.long (fX7_advanceOf τ m1 y1))) ⟨hx, hb, hml, hown, hts⟩ (mX7_advanceOf l lo D E h Pr τ ad fa hR hW m1 y1 (show m1 < cN τ 0 by first | assumption | omega) (by first | assumption | omega)) (cwV 2 hts gX7_dueOf_X7_advanceOf rfl rfl rfl (by decide +kernel) ⟨Nat.le_of_ble_eq_true rfl, Nat.le_of_ble_eq_true rfl⟩) I hR.f0 rfl rfl hl.1 rfl (Nat.le_of_ble_eq_true rfl) dX7_dueOf_31 ⟨Nat.le_of_ble_eq_true rfl, Nat.le_of_ble_eq_true rfl⟩ ?_
      refine W.eq (g2 := F0 m 34 ls [.long (fX7_advanceOf τ m1 y1)]) rfl ?_
      refine lv_lstore_n (lv' := [(3, .long (fX7_advanceOf τ m1 y1)), (0, .ref (ad 0 0)), (1, .ref (ad 10 m1)), (2, .int (nI y1))]) hx hb dX7_dueOf_34 rfl hl (by decide) rfl (fun ls hl => ?_)
      refine lv_lload_n hx hb dX7_dueOf_35 rfl (lv_at hl 0 rfl) ?_
      refine lv_lload_n hx hb dX7_dueOf_36 rfl (lv_at hl 0 rfl) ?_
      refine lv_aload_n hx hb dX7_dueOf_37 rfl (lv_at hl 1 rfl) ?_
      refine xget (C := RX7) (T := TX7) (N := 14) 5 hx hb hts hin7 hown I hR.f0 rfl (by decide) (List.mem_of_getElem? (i := 1) rfl) rfl rfl dX7_dueOf_38 ?_
      refine lv_iload_n hx hb dX7_dueOf_41 rfl (lv_at hl 3 rfl) ?_
      refine xaald (i := y1) (n := 20) 8 hx hb I rfl hR.f6 (by omega) (by decide) (hR.2.2.2.2.2.2.2.2.2 y1 (show y1 < 20 by first | assumption | omega)) dX7_dueOf_42 ?_
      refine W.eq (g2 := F0 m 43 ls [.ref (ad 18 y1), .long (fX7_advanceOf τ m1 y1), .long (fX7_advanceOf τ m1 y1)]) rfl ?_
      refine xget (C := RX6) (T := TX6) (N := 7) 1 hx hb hts hin6 hown I (hR.f18 (show y1 < 20 by first | assumption | omega)) rfl (by decide) (List.mem_of_getElem? (i := 5) rfl) rfl rfl dX7_dueOf_43 ?_
      refine lv_i2l (v := (cI τ 32 y1).toInt64) hx hb dX7_dueOf_46 rfl ?_
      refine lv_lmul hx hb dX7_dueOf_47 ?_
      refine lv_ldc2 (v := (100 : Int64)) hx hb hown (hts _ (List.mem_of_getElem? (i := 6) rfl)) dX7_dueOf_48 ?_
      refine lv_ldiv hx hb dX7_dueOf_51 (by decide) ?_
      refine lv_ladd hx hb dX7_dueOf_52 ?_
      exact xrlR hx hb hr hlocks dX7_dueOf_53 hG
    · skip
      rw [if_neg c_18] at hG
      exact B21 hG ls (lv_sub hl [1, 2] rfl)

def fX7_owedBy_S9 (τ : CT) (m1 : Nat) (k9 : Nat) (a9_2 : Int64) : (Int64) := (a9_2 + (fX7_dueOf τ m1 k9))
def fX7_owedBy_L9 (τ : CT) (m1 : Nat) : Nat → Nat → Int64 → Int64
  | 0, k9, a9_2 => a9_2
  | n9 + 1, k9, a9_2 => lseq (fX7_owedBy_S9 τ m1 k9 a9_2) (fun q => fX7_owedBy_L9 τ m1 n9 (k9 + 1) q)
def fX7_owedBy (τ : CT) (m1 : Nat) : Int64 := (fX7_owedBy_L9 τ m1 20 0 (-(cL τ 20 m1)))
set_option maxHeartbeats 4000000 in
set_option maxRecDepth 100000 in
theorem mX7_owedBy (l : Launch) (lo : Nat) (D : va_G) (E : Nat → ClassId) (h : XW) (Pr : Nat → Prop) (τ : CT) (ad : Nat → Nat → Nat) (fa : Nat → Nat → Option Nat) (hR : RC E Pr τ ad fa h) (hW : CW τ) (m1 : Nat) (h_m1 : m1 < cN τ 0) : Met l yX7_owedBy wsX7_owedBy ({ frames := 5, cells := 0, slots := 0, locals := 121 } : Room) (xP lo D E h [.ref (ad 0 0), .ref (ad 10 m1)]) (xR (some (.long (fX7_owedBy τ m1)))) 0 0 (fun _ => False) := by
  obtain ⟨G, hG⟩ : ∃ G, fX7_owedBy τ m1 = G := ⟨_, rfl⟩
  rw [hG]
  unfold fX7_owedBy at hG
  refine Met.ofW (cc := cX7_owedBy) (maxL := 5) (ret := (some .long)) (by decide) rfl ?_
  intro p e s m args below meth c s₁ B hml hv
  obtain ⟨rfl, I⟩ := hv
  have hx := B.exec
  have hb := B.bytes
  have hr := B.returns
  have hts := atoms_spec (ws := wsX7_owedBy) B.pre
  have hown : s.vm.findClass RX7 = some m.cls := findClass_of_methodNamed B.named
  have hlocks := B.notSynchronized
  have hl := lv_entry ([.ref (ad 0 0), .ref (ad 10 m1)] : List Value) (n := 5) (Nat.le_of_ble_eq_true rfl)
  rw [lg_entry_eq]
  generalize (lg_sl ([.ref (ad 0 0), .ref (ad 10 m1)] : List Value) ++ List.replicate (5 - (lg_sl ([.ref (ad 0 0), .ref (ad 10 m1)] : List Value)).length) Slot.unset).toArray = ls at hl ⊢
  have hl : lv_has ls 5 [(0, .ref (ad 0 0)), (1, .ref (ad 10 m1))] := hl
  have hin7 : ∀ w ∈ u_ws RX7 TX7 14, w ∈ wsX7_owedBy := fun _ h => List.mem_cons_of_mem _ (List.mem_append_left _ (List.mem_append_left _ (List.mem_append_left _ (List.mem_append_right _ (h)))))
  have hin3 : ∀ w ∈ u_ws RX3 TX3 5, w ∈ wsX7_owedBy := fun _ h => List.mem_cons_of_mem _ (List.mem_append_left _ (List.mem_append_left _ (List.mem_append_left _ (List.mem_append_left _ (List.mem_append_right _ (h))))))
  have hin5 : ∀ w ∈ u_ws RX5 TX5 4, w ∈ wsX7_owedBy := fun _ h => List.mem_cons_of_mem _ (List.mem_append_right _ (h))
  have hin1 : ∀ w ∈ u_ws RX1 TX1 3, w ∈ wsX7_owedBy := fun _ h => List.mem_cons_of_mem _ (List.mem_append_left _ (List.mem_append_right _ (h)))
  have hin6 : ∀ w ∈ u_ws RX6 TX6 7, w ∈ wsX7_owedBy := fun _ h => List.mem_cons_of_mem _ (List.mem_append_left _ (List.mem_append_left _ (List.mem_append_right _ (h))))
  have hW0 := hW
  obtain ⟨w0, -⟩ := id hW
  refine lv_aload_n hx hb dX7_owedBy_0 rfl (lv_at hl 1 rfl) ?_
  refine xget (C := RX3) (T := TX3) (N := 5) 3 hx hb hts hin3 hown I (hR.f10 (show m1 < cN τ 0 by first | assumption | omega)) rfl (by decide) (List.mem_of_getElem? (i := 1) rfl) rfl rfl dX7_owedBy_1 ?_
  refine lv_lneg hx hb dX7_owedBy_4 ?_
  refine lv_lstore_n (lv' := [(2, .long (-(cL τ 20 m1))), (0, .ref (ad 0 0)), (1, .ref (ad 10 m1))]) hx hb dX7_owedBy_5 rfl hl (by decide) rfl (fun ls hl => ?_)
  refine lv_iconst (v := (nI 0)) hx hb dX7_owedBy_6 (by decide) ?_
  refine lv_istore (lv' := [(4, .int (nI 0)), (2, .long (-(cL τ 20 m1))), (0, .ref (ad 0 0)), (1, .ref (ad 10 m1))]) hx hb dX7_owedBy_7 hl (by decide) rfl (fun ls hl => ?_)
  have L9 : ∀ (n9 : Nat) (k9 : Nat) (a9_2 : Int64), k9 + n9 = 20 → fX7_owedBy_L9 τ m1 n9 k9 a9_2 = G → ∀ ls : Array Slot, lv_has ls 5 [(0, .ref (ad 0 0)), (1, .ref (ad 10 m1)), (2, .long a9_2), (4, .int (nI k9))] → W p l e (headSpec wsX7_owedBy ({ frames := 5, cells := 0, slots := 0, locals := 121 } : Room)).room s m ([.ref (ad 0 0), .ref (ad 10 m1)] : List Value).toArray below meth c s.heap [] 0 0 (MQ below (xR (some (.long G))) ([.ref (ad 0 0), .ref (ad 10 m1)] : List Value).toArray s 0 0 (fun _ => False)) (F0 m 9 ls []) := by
    intro n9
    induction n9 with
    | zero =>
      intro k9 a9_2 hkn hG ls hl
      have hkN : k9 = 20 := by omega
      have hG : a9_2 = G := hG
      refine lv_iload hx hb dX7_owedBy_9 (lv_at hl 3 rfl) ?_
      refine lv_bipush (v := (nI 20)) hx hb dX7_owedBy_11 (by decide) ?_
      refine lv_icmp_ge (tgt := 32) hx hb dX7_owedBy_13 (by decide) (fun _ => ?_) (fun q => absurd (nI_le (Nat.le_of_eq hkN.symm) (by omega)) q)
      refine lv_lload_n hx hb dX7_owedBy_32 rfl (lv_at hl 2 rfl) ?_
      exact xrlR hx hb hr hlocks dX7_owedBy_33 hG
    | succ n9 ih =>
      intro k9 a9_2 hkn hG ls hl
      have hk : k9 < 20 := by omega
      have hG : lseq ((a9_2 + (fX7_dueOf τ m1 k9))) (fun q => fX7_owedBy_L9 τ m1 n9 (k9 + 1) q) = G := hG
      refine lv_iload hx hb dX7_owedBy_9 (lv_at hl 3 rfl) ?_
      refine lv_bipush (v := (nI 20)) hx hb dX7_owedBy_11 (by decide) ?_
      refine lv_icmp_ge (tgt := 32) hx hb dX7_owedBy_13 (by decide) (fun q => absurd q (nI_ge hk (by omega))) (fun _ => ?_)
      refine lv_lload_n hx hb dX7_owedBy_16 rfl (lv_at hl 2 rfl) ?_
      refine lv_aload_n hx hb dX7_owedBy_17 rfl (lv_at hl 0 rfl) ?_
      refine lv_aload_n hx hb dX7_owedBy_18 rfl (lv_at hl 1 rfl) ?_
      refine lv_iload hx hb dX7_owedBy_19 (lv_at hl 3 rfl) ?_
      refine xcvR (As := [.ref (ad 10 m1), .int (nI k9)]) (rest := [.long a9_2]) (v := some (.long (fX7_dueOf τ m1 k9))) ⟨hx, hb, hml, hown, hts⟩ (mX7_dueOf l lo D E h Pr τ ad fa hR hW m1 k9 (show m1 < cN τ 0 by first | assumption | omega) (by first | assumption | omega)) (cwV 2 hts gX7_owedBy_X7_dueOf rfl rfl rfl (by decide +kernel) ⟨Nat.le_of_ble_eq_true rfl, Nat.le_of_ble_eq_true rfl⟩) I hR.f0 rfl rfl hl.1 rfl (Nat.le_of_ble_eq_true rfl) dX7_owedBy_21 ⟨Nat.le_of_ble_eq_true rfl, Nat.le_of_ble_eq_true rfl⟩ ?_
      refine W.eq (g2 := F0 m 24 ls [.long (fX7_dueOf τ m1 k9), .long a9_2]) rfl ?_
      refine lv_ladd hx hb dX7_owedBy_24 ?_
      refine lv_lstore_n (lv' := [(2, .long (a9_2 + (fX7_dueOf τ m1 k9))), (0, .ref (ad 0 0)), (1, .ref (ad 10 m1)), (4, .int (nI k9))]) hx hb dX7_owedBy_25 rfl hl (by decide) rfl (fun ls hl => ?_)
      refine lv_iinc (v := (nI (k9 + 1))) (lv' := [(4, .int (nI (k9 + 1))), (2, .long (a9_2 + (fX7_dueOf τ m1 k9))), (0, .ref (ad 0 0)), (1, .ref (ad 10 m1))]) hx hb dX7_owedBy_26 hl (k := 3) rfl (nI_succ k9).symm (by decide) rfl (fun ls hl => ?_)
      refine lv_goto (tgt := 9) hx hb dX7_owedBy_29 (by decide) ?_
      exact ih (k9 + 1) (a9_2 + (fX7_dueOf τ m1 k9)) (by first | omega | (simp only [cSI_N, cSL_N, cSM_N, cSD_N]; omega)) hG ls (lv_sub hl [2, 3, 1, 0] rfl)
  exact L9 20 0 (-(cL τ 20 m1)) (by omega) hG ls (lv_sub hl [2, 3, 1, 0] rfl)

def fX7_isShared (τ : CT) (m1 : Nat) (y1 : Nat) : Int32 := (if (cM τ 1 m1 y1) = 0 then (if (fX7_weightIn τ m1 y1) ≤ (0 : Int64) then (nI 0) else (nI 1)) else (nI 0))
set_option maxHeartbeats 4000000 in
set_option maxRecDepth 100000 in
theorem mX7_isShared (l : Launch) (lo : Nat) (D : va_G) (E : Nat → ClassId) (h : XW) (Pr : Nat → Prop) (τ : CT) (ad : Nat → Nat → Nat) (fa : Nat → Nat → Option Nat) (hR : RC E Pr τ ad fa h) (hW : CW τ) (m1 : Nat) (y1 : Nat) (h_m1 : m1 < cN τ 0) (hy : y1 < 20) : Met l yX7_isShared wsX7_isShared ({ frames := 3, cells := 0, slots := 0, locals := 75 } : Room) (xP lo D E h [.ref (ad 0 0), .ref (ad 10 m1), .int (nI y1)]) (xR (some (.int (fX7_isShared τ m1 y1)))) 0 0 (fun _ => False) := by
  obtain ⟨G, hG⟩ : ∃ G, fX7_isShared τ m1 y1 = G := ⟨_, rfl⟩
  rw [hG]
  unfold fX7_isShared at hG
  refine Met.ofW (cc := cX7_isShared) (maxL := 3) (ret := (some .boolean)) (by decide) rfl ?_
  intro p e s m args below meth c s₁ B hml hv
  obtain ⟨rfl, I⟩ := hv
  have hx := B.exec
  have hb := B.bytes
  have hr := B.returns
  have hts := atoms_spec (ws := wsX7_isShared) B.pre
  have hown : s.vm.findClass RX7 = some m.cls := findClass_of_methodNamed B.named
  have hlocks := B.notSynchronized
  have hl := lv_entry ([.ref (ad 0 0), .ref (ad 10 m1), .int (nI y1)] : List Value) (n := 3) (Nat.le_of_ble_eq_true rfl)
  rw [lg_entry_eq]
  generalize (lg_sl ([.ref (ad 0 0), .ref (ad 10 m1), .int (nI y1)] : List Value) ++ List.replicate (3 - (lg_sl ([.ref (ad 0 0), .ref (ad 10 m1), .int (nI y1)] : List Value)).length) Slot.unset).toArray = ls at hl ⊢
  have hl : lv_has ls 3 [(0, .ref (ad 0 0)), (1, .ref (ad 10 m1)), (2, .int (nI y1))] := hl
  have hin7 : ∀ w ∈ u_ws RX7 TX7 14, w ∈ wsX7_isShared := fun _ h => List.mem_cons_of_mem _ (List.mem_append_left _ (List.mem_append_left _ (List.mem_append_right _ (h))))
  have hin3 : ∀ w ∈ u_ws RX3 TX3 5, w ∈ wsX7_isShared := fun _ h => List.mem_cons_of_mem _ (List.mem_append_left _ (List.mem_append_left _ (List.mem_append_left _ (List.mem_append_right _ (h)))))
  have hin5 : ∀ w ∈ u_ws RX5 TX5 4, w ∈ wsX7_isShared := fun _ h => List.mem_cons_of_mem _ (List.mem_append_right _ (h))
  have hin1 : ∀ w ∈ u_ws RX1 TX1 3, w ∈ wsX7_isShared := fun _ h => List.mem_cons_of_mem _ (List.mem_append_left _ (List.mem_append_right _ (h)))
  have hW0 := hW
  obtain ⟨w0, -⟩ := id hW
  refine lv_aload_n hx hb dX7_isShared_0 rfl (lv_at hl 1 rfl) ?_
  refine xget (C := RX3) (T := TX3) (N := 5) 1 hx hb hts hin3 hown I (hR.f10 (show m1 < cN τ 0 by first | assumption | omega)) rfl (by decide) (List.mem_of_getElem? (i := 1) rfl) rfl rfl dX7_isShared_1 ?_
  refine lv_iload_n hx hb dX7_isShared_4 rfl (lv_at hl 2 rfl) ?_
  refine xzald (i := y1) (n := 20) hx hb I (hR.f12 (show m1 < cN τ 0 by first | assumption | omega)) (by omega) (by decide) dX7_isShared_5 ?_
  refine lv_if_ne (tgt := 24) hx hb dX7_isShared_6 (by decide) (fun c_6 => ?_) (fun c_6 => ?_)
  · skip
    rw [if_neg c_6] at hG
    refine lv_iconst (v := (nI 0)) hx hb dX7_isShared_24 (by decide) ?_
    exact xrzR hx hb hr hlocks dX7_isShared_25 hG (by have hG2 : (nI 0) = G := hG; rw [← hG2]; exact xnb (Or.inl rfl))
  · skip
    rw [if_pos c_6] at hG
    refine lv_aload_n hx hb dX7_isShared_9 rfl (lv_at hl 0 rfl) ?_
    refine lv_aload_n hx hb dX7_isShared_10 rfl (lv_at hl 1 rfl) ?_
    refine lv_iload_n hx hb dX7_isShared_11 rfl (lv_at hl 2 rfl) ?_
    refine xcvR (As := [.ref (ad 10 m1), .int (nI y1)]) (rest := []) (v := some (.long (fX7_weightIn τ m1 y1))) ⟨hx, hb, hml, hown, hts⟩ (mX7_weightIn l lo D E h Pr τ ad fa hR hW m1 y1 (show m1 < cN τ 0 by first | assumption | omega) (by first | assumption | omega)) (cwV 2 hts gX7_isShared_X7_weightIn rfl rfl rfl (by decide +kernel) ⟨Nat.le_of_ble_eq_true rfl, Nat.le_of_ble_eq_true rfl⟩) I hR.f0 rfl rfl hl.1 rfl (Nat.le_of_ble_eq_true rfl) dX7_isShared_12 ⟨Nat.le_of_ble_eq_true rfl, Nat.le_of_ble_eq_true rfl⟩ ?_
    refine W.eq (g2 := F0 m 15 ls [.long (fX7_weightIn τ m1 y1)]) rfl ?_
    refine lv_lconst (v := (0 : Int64)) hx hb dX7_isShared_15 rfl ?_
    refine xl_le (tgt := 24) hx hb dX7_isShared_16 dX7_isShared_17 (by decide) (fun c_16 => ?_) (fun c_16 => ?_)
    · skip
      rw [if_pos c_16] at hG
      refine lv_iconst (v := (nI 0)) hx hb dX7_isShared_24 (by decide) ?_
      exact xrzR hx hb hr hlocks dX7_isShared_25 hG (by have hG2 : (nI 0) = G := hG; rw [← hG2]; exact xnb (Or.inl rfl))
    · skip
      rw [if_neg c_16] at hG
      refine lv_iconst (v := (nI 1)) hx hb dX7_isShared_20 (by decide) ?_
      refine lv_goto (tgt := 25) hx hb dX7_isShared_21 (by decide) ?_
      exact xrzR hx hb hr hlocks dX7_isShared_25 hG (by have hG2 : (nI 1) = G := hG; rw [← hG2]; exact xnb (Or.inr rfl))

def fX7_dueOfReleased_S5 (τ : CT) (y1 : Nat) (k5 : Nat) (a5_2 : Int64) : (Int64) := (if (cM τ 1 k5 y1) = 0 then a5_2 else (a5_2 + (cD τ k5 y1)))
def fX7_dueOfReleased_L5 (τ : CT) (y1 : Nat) : Nat → Nat → Int64 → Int64
  | 0, k5, a5_2 => a5_2
  | n5 + 1, k5, a5_2 => lseq (fX7_dueOfReleased_S5 τ y1 k5 a5_2) (fun q => fX7_dueOfReleased_L5 τ y1 n5 (k5 + 1) q)
def fX7_dueOfReleased (τ : CT) (y1 : Nat) : Int64 := (fX7_dueOfReleased_L5 τ y1 (cN τ 0) 0 (0 : Int64))
set_option maxHeartbeats 4000000 in
set_option maxRecDepth 100000 in
theorem mX7_dueOfReleased (l : Launch) (lo : Nat) (D : va_G) (E : Nat → ClassId) (h : XW) (Pr : Nat → Prop) (τ : CT) (ad : Nat → Nat → Nat) (fa : Nat → Nat → Option Nat) (hR : RC E Pr τ ad fa h) (hW : CW τ) (y1 : Nat) (hy : y1 < 20) : Met l yX7_dueOfReleased wsX7_dueOfReleased ({ frames := 0, cells := 0, slots := 0, locals := 0 } : Room) (xP lo D E h [.ref (ad 0 0), .int (nI y1)]) (xR (some (.long (fX7_dueOfReleased τ y1)))) 0 0 (fun _ => False) := by
  obtain ⟨G, hG⟩ : ∃ G, fX7_dueOfReleased τ y1 = G := ⟨_, rfl⟩
  rw [hG]
  unfold fX7_dueOfReleased at hG
  refine Met.ofW (cc := cX7_dueOfReleased) (maxL := 5) (ret := (some .long)) (by decide) rfl ?_
  intro p e s m args below meth c s₁ B hml hv
  obtain ⟨rfl, I⟩ := hv
  have hx := B.exec
  have hb := B.bytes
  have hr := B.returns
  have hts := atoms_spec (ws := wsX7_dueOfReleased) B.pre
  have hown : s.vm.findClass RX7 = some m.cls := findClass_of_methodNamed B.named
  have hlocks := B.notSynchronized
  have hl := lv_entry ([.ref (ad 0 0), .int (nI y1)] : List Value) (n := 5) (Nat.le_of_ble_eq_true rfl)
  rw [lg_entry_eq]
  generalize (lg_sl ([.ref (ad 0 0), .int (nI y1)] : List Value) ++ List.replicate (5 - (lg_sl ([.ref (ad 0 0), .int (nI y1)] : List Value)).length) Slot.unset).toArray = ls at hl ⊢
  have hl : lv_has ls 5 [(0, .ref (ad 0 0)), (1, .int (nI y1))] := hl
  have hin7 : ∀ w ∈ u_ws RX7 TX7 14, w ∈ wsX7_dueOfReleased := fun _ h => List.mem_cons_of_mem _ (List.mem_append_left _ (List.mem_append_right _ (h)))
  have hin3 : ∀ w ∈ u_ws RX3 TX3 5, w ∈ wsX7_dueOfReleased := fun _ h => List.mem_cons_of_mem _ (List.mem_append_right _ (h))
  have hW0 := hW
  obtain ⟨w0, -⟩ := id hW
  refine lv_lconst (v := (0 : Int64)) hx hb dX7_dueOfReleased_0 rfl ?_
  refine lv_lstore_n (lv' := [(2, .long (0 : Int64)), (0, .ref (ad 0 0)), (1, .int (nI y1))]) hx hb dX7_dueOfReleased_1 rfl hl (by decide) rfl (fun ls hl => ?_)
  refine lv_iconst (v := (nI 0)) hx hb dX7_dueOfReleased_2 (by decide) ?_
  refine lv_istore (lv' := [(4, .int (nI 0)), (2, .long (0 : Int64)), (0, .ref (ad 0 0)), (1, .int (nI y1))]) hx hb dX7_dueOfReleased_3 hl (by decide) rfl (fun ls hl => ?_)
  have L5 : ∀ (n5 : Nat) (k5 : Nat) (a5_2 : Int64), k5 + n5 = cN τ 0 → fX7_dueOfReleased_L5 τ y1 n5 k5 a5_2 = G → ∀ ls : Array Slot, lv_has ls 5 [(0, .ref (ad 0 0)), (1, .int (nI y1)), (2, .long a5_2), (4, .int (nI k5))] → W p l e (headSpec wsX7_dueOfReleased ({ frames := 0, cells := 0, slots := 0, locals := 0 } : Room)).room s m ([.ref (ad 0 0), .int (nI y1)] : List Value).toArray below meth c s.heap [] 0 0 (MQ below (xR (some (.long G))) ([.ref (ad 0 0), .int (nI y1)] : List Value).toArray s 0 0 (fun _ => False)) (F0 m 5 ls []) := by
    intro n5
    induction n5 with
    | zero =>
      intro k5 a5_2 hkn hG ls hl
      have hkN : k5 = cN τ 0 := by omega
      have hG : a5_2 = G := hG
      refine lv_iload hx hb dX7_dueOfReleased_5 (lv_at hl 3 rfl) ?_
      refine lv_aload_n hx hb dX7_dueOfReleased_7 rfl (lv_at hl 0 rfl) ?_
      refine xget (C := RX7) (T := TX7) (N := 14) 7 hx hb hts hin7 hown I hR.f0 rfl (by decide) (List.mem_of_getElem? (i := 1) rfl) rfl rfl dX7_dueOfReleased_8 ?_
      refine lv_icmp_ge (tgt := 50) hx hb dX7_dueOfReleased_11 (by decide) (fun _ => ?_) (fun q => absurd (nI_le (Nat.le_of_eq hkN.symm) (by omega)) q)
      refine lv_lload_n hx hb dX7_dueOfReleased_50 rfl (lv_at hl 2 rfl) ?_
      exact xrlR hx hb hr hlocks dX7_dueOfReleased_51 hG
    | succ n5 ih =>
      intro k5 a5_2 hkn hG ls hl
      have hk : k5 < cN τ 0 := by omega
      have hG : lseq ((if (cM τ 1 k5 y1) = 0 then a5_2 else (a5_2 + (cD τ k5 y1)))) (fun q => fX7_dueOfReleased_L5 τ y1 n5 (k5 + 1) q) = G := hG
      refine lv_iload hx hb dX7_dueOfReleased_5 (lv_at hl 3 rfl) ?_
      refine lv_aload_n hx hb dX7_dueOfReleased_7 rfl (lv_at hl 0 rfl) ?_
      refine xget (C := RX7) (T := TX7) (N := 14) 7 hx hb hts hin7 hown I hR.f0 rfl (by decide) (List.mem_of_getElem? (i := 1) rfl) rfl rfl dX7_dueOfReleased_8 ?_
      refine lv_icmp_ge (tgt := 50) hx hb dX7_dueOfReleased_11 (by decide) (fun q => absurd q (nI_ge hk (by omega))) (fun _ => ?_)
      refine lv_aload_n hx hb dX7_dueOfReleased_14 rfl (lv_at hl 0 rfl) ?_
      refine xget (C := RX7) (T := TX7) (N := 14) 0 hx hb hts hin7 hown I hR.f0 rfl (by decide) (List.mem_of_getElem? (i := 2) rfl) rfl rfl dX7_dueOfReleased_15 ?_
      refine lv_iload hx hb dX7_dueOfReleased_18 (lv_at hl 3 rfl) ?_
      refine xaald (i := k5) (n := 12) 3 hx hb I rfl hR.f1 (by omega) (by decide) (hR.2.2.2.2.1 k5 (show k5 < cN τ 0 by first | assumption | omega)) dX7_dueOfReleased_20 ?_
      refine W.eq (g2 := F0 m 21 ls [.ref (ad 10 k5)]) rfl ?_
      refine xget (C := RX3) (T := TX3) (N := 5) 1 hx hb hts hin3 hown I (hR.f10 (show k5 < cN τ 0 by first | assumption | omega)) rfl (by decide) (List.mem_of_getElem? (i := 3) rfl) rfl rfl dX7_dueOfReleased_21 ?_
      refine lv_iload_n hx hb dX7_dueOfReleased_24 rfl (lv_at hl 1 rfl) ?_
      refine xzald (i := y1) (n := 20) hx hb I (hR.f12 (show k5 < cN τ 0 by first | assumption | omega)) (by omega) (by decide) dX7_dueOfReleased_25 ?_
      refine lv_if_eq (tgt := 44) hx hb dX7_dueOfReleased_26 (by decide) (fun c_26 => ?_) (fun c_26 => ?_)
      · skip
        rw [if_pos c_26] at hG
        refine lv_iinc (v := (nI (k5 + 1))) (lv' := [(4, .int (nI (k5 + 1))), (0, .ref (ad 0 0)), (1, .int (nI y1)), (2, .long a5_2)]) hx hb dX7_dueOfReleased_44 hl (k := 3) rfl (nI_succ k5).symm (by decide) rfl (fun ls hl => ?_)
        refine lv_goto (tgt := 5) hx hb dX7_dueOfReleased_47 (by decide) ?_
        exact ih (k5 + 1) a5_2 (by first | omega | (simp only [cSI_N, cSL_N, cSM_N, cSD_N]; omega)) hG ls (lv_sub hl [1, 2, 3, 0] rfl)
      · skip
        rw [if_neg c_26] at hG
        refine lv_lload_n hx hb dX7_dueOfReleased_29 rfl (lv_at hl 2 rfl) ?_
        refine lv_aload_n hx hb dX7_dueOfReleased_30 rfl (lv_at hl 0 rfl) ?_
        refine xget (C := RX7) (T := TX7) (N := 14) 0 hx hb hts hin7 hown I hR.f0 rfl (by decide) (List.mem_of_getElem? (i := 2) rfl) rfl rfl dX7_dueOfReleased_31 ?_
        refine lv_iload hx hb dX7_dueOfReleased_34 (lv_at hl 3 rfl) ?_
        refine xaald (i := k5) (n := 12) 3 hx hb I rfl hR.f1 (by omega) (by decide) (hR.2.2.2.2.1 k5 (show k5 < cN τ 0 by first | assumption | omega)) dX7_dueOfReleased_36 ?_
        refine W.eq (g2 := F0 m 37 ls [.ref (ad 10 k5), .long a5_2]) rfl ?_
        refine xget (C := RX3) (T := TX3) (N := 5) 2 hx hb hts hin3 hown I (hR.f10 (show k5 < cN τ 0 by first | assumption | omega)) rfl (by decide) (List.mem_of_getElem? (i := 4) rfl) rfl rfl dX7_dueOfReleased_37 ?_
        refine lv_iload_n hx hb dX7_dueOfReleased_40 rfl (lv_at hl 1 rfl) ?_
        refine xlald (i := y1) (n := 20) hx hb I (hR.f13 (show k5 < cN τ 0 by first | assumption | omega)) (by omega) (by decide) dX7_dueOfReleased_41 ?_
        refine lv_ladd hx hb dX7_dueOfReleased_42 ?_
        refine lv_lstore_n (lv' := [(2, .long (a5_2 + (cD τ k5 y1))), (0, .ref (ad 0 0)), (1, .int (nI y1)), (4, .int (nI k5))]) hx hb dX7_dueOfReleased_43 rfl hl (by decide) rfl (fun ls hl => ?_)
        refine lv_iinc (v := (nI (k5 + 1))) (lv' := [(4, .int (nI (k5 + 1))), (2, .long (a5_2 + (cD τ k5 y1))), (0, .ref (ad 0 0)), (1, .int (nI y1))]) hx hb dX7_dueOfReleased_44 hl (k := 3) rfl (nI_succ k5).symm (by decide) rfl (fun ls hl => ?_)
        refine lv_goto (tgt := 5) hx hb dX7_dueOfReleased_47 (by decide) ?_
        exact ih (k5 + 1) (a5_2 + (cD τ k5 y1)) (by first | omega | (simp only [cSI_N, cSL_N, cSM_N, cSD_N]; omega)) hG ls (lv_sub hl [2, 3, 1, 0] rfl)
  exact L5 (cN τ 0) 0 (0 : Int64) (by omega) hG ls (lv_sub hl [2, 3, 1, 0] rfl)
