def fX0_isOfGroup (τ : CT) (a1 : Nat) (b1 : Nat) : Int32 := (if cK τ 13 a1 = cK τ 13 b1 then (if cK τ 12 a1 = cK τ 12 b1 then (if (nI (cK τ 15 a1)) = (nI (cK τ 15 b1)) then (nI 1) else (nI 0)) else (nI 0)) else (nI 0))
set_option maxHeartbeats 4000000 in
set_option maxRecDepth 100000 in
theorem mX0_isOfGroup (l : Launch) (lo : Nat) (D : va_G) (E : Nat → ClassId) (h : XW) (Pr : Nat → Prop) (τ : CT) (ad : Nat → Nat → Nat) (fa : Nat → Nat → Option Nat) (hR : RC E Pr τ ad fa h) (hW : CW τ) (a1 : Nat) (b1 : Nat) (h_a1 : a1 < cN τ 3) (h_b1 : b1 < cN τ 3) : Met l yX0_isOfGroup wsX0_isOfGroup ({ frames := 0, cells := 0, slots := 0, locals := 0 } : Room) (xP lo D E h [.ref (ad 16 a1), .ref (ad 16 b1)]) (xR (some (.int (fX0_isOfGroup τ a1 b1)))) 0 0 (fun _ => False) := by
  obtain ⟨G, hG⟩ : ∃ G, fX0_isOfGroup τ a1 b1 = G := ⟨_, rfl⟩
  rw [hG]
  unfold fX0_isOfGroup at hG
  refine Met.ofW (cc := cX0_isOfGroup) (maxL := 2) (ret := (some .boolean)) (by decide) rfl ?_
  intro p e s m args below meth c s₁ B hml hv
  obtain ⟨rfl, I⟩ := hv
  have hx := B.exec
  have hb := B.bytes
  have hr := B.returns
  have hts := atoms_spec (ws := wsX0_isOfGroup) B.pre
  have hown : s.vm.findClass RX0 = some m.cls := findClass_of_methodNamed B.named
  have hlocks := B.notSynchronized
  have hl := lv_entry ([.ref (ad 16 a1), .ref (ad 16 b1)] : List Value) (n := 2) (Nat.le_of_ble_eq_true rfl)
  rw [lg_entry_eq]
  generalize (lg_sl ([.ref (ad 16 a1), .ref (ad 16 b1)] : List Value) ++ List.replicate (2 - (lg_sl ([.ref (ad 16 a1), .ref (ad 16 b1)] : List Value)).length) Slot.unset).toArray = ls at hl ⊢
  have hl : lv_has ls 2 [(0, .ref (ad 16 a1)), (1, .ref (ad 16 b1))] := hl
  have hin0 : ∀ w ∈ u_ws RX0 TX0 8, w ∈ wsX0_isOfGroup := fun _ h => List.mem_cons_of_mem _ (List.mem_append_right _ (h))
  have hW0 := hW
  obtain ⟨w0, -⟩ := id hW
  refine lv_aload_n hx hb dX0_isOfGroup_0 rfl (lv_at hl 0 rfl) ?_
  refine xget (C := RX0) (T := TX0) (N := 8) 2 hx hb hts hin0 hown I (hR.f16 (show a1 < cN τ 3 by first | assumption | omega)) rfl (by decide) (List.mem_of_getElem? (i := 1) rfl) rfl rfl dX0_isOfGroup_1 ?_
  have b1_13 : cK τ 13 a1 < cN τ 4 := hW.2.2.2.2.1 a1 (show a1 < cN τ 3 by first | assumption | omega)
  refine lv_aload_n hx hb dX0_isOfGroup_4 rfl (lv_at hl 1 rfl) ?_
  refine xget (C := RX0) (T := TX0) (N := 8) 2 hx hb hts hin0 hown I (hR.f16 (show b1 < cN τ 3 by first | assumption | omega)) rfl (by decide) (List.mem_of_getElem? (i := 1) rfl) rfl rfl dX0_isOfGroup_5 ?_
  have b5_13 : cK τ 13 b1 < cN τ 4 := hW.2.2.2.2.1 b1 (show b1 < cN τ 3 by first | assumption | omega)
  refine xac_ne (tgt := 37) hx hb dX0_isOfGroup_8 (by decide) (hR.eqi (show cK τ 13 a1 < cN τ 4 by first | assumption | omega) (show cK τ 13 b1 < cN τ 4 by first | assumption | omega)) (fun c_8 => ?_) (fun c_8 => ?_)
  · skip
    rw [if_neg c_8] at hG
    refine lv_iconst (v := (nI 0)) hx hb dX0_isOfGroup_37 (by decide) ?_
    exact xrzR hx hb hr hlocks dX0_isOfGroup_38 hG (by have hG2 : (nI 0) = G := hG; rw [← hG2]; exact xnb (Or.inl rfl))
  · skip
    rw [if_pos c_8] at hG
    refine lv_aload_n hx hb dX0_isOfGroup_11 rfl (lv_at hl 0 rfl) ?_
    refine xget (C := RX0) (T := TX0) (N := 8) 0 hx hb hts hin0 hown I (hR.f16 (show a1 < cN τ 3 by first | assumption | omega)) rfl (by decide) (List.mem_of_getElem? (i := 2) rfl) rfl rfl dX0_isOfGroup_12 ?_
    have b12_12 : cK τ 12 a1 < cN τ 1 := hW.2.2.2.1 a1 (show a1 < cN τ 3 by first | assumption | omega)
    refine lv_aload_n hx hb dX0_isOfGroup_15 rfl (lv_at hl 1 rfl) ?_
    refine xget (C := RX0) (T := TX0) (N := 8) 0 hx hb hts hin0 hown I (hR.f16 (show b1 < cN τ 3 by first | assumption | omega)) rfl (by decide) (List.mem_of_getElem? (i := 2) rfl) rfl rfl dX0_isOfGroup_16 ?_
    have b16_12 : cK τ 12 b1 < cN τ 1 := hW.2.2.2.1 b1 (show b1 < cN τ 3 by first | assumption | omega)
    refine xac_ne (tgt := 37) hx hb dX0_isOfGroup_19 (by decide) (hR.eqi (show cK τ 12 a1 < cN τ 1 by first | assumption | omega) (show cK τ 12 b1 < cN τ 1 by first | assumption | omega)) (fun c_19 => ?_) (fun c_19 => ?_)
    · skip
      rw [if_neg c_19] at hG
      refine lv_iconst (v := (nI 0)) hx hb dX0_isOfGroup_37 (by decide) ?_
      exact xrzR hx hb hr hlocks dX0_isOfGroup_38 hG (by have hG2 : (nI 0) = G := hG; rw [← hG2]; exact xnb (Or.inl rfl))
    · skip
      rw [if_pos c_19] at hG
      refine lv_aload_n hx hb dX0_isOfGroup_22 rfl (lv_at hl 0 rfl) ?_
      refine xget (C := RX0) (T := TX0) (N := 8) 1 hx hb hts hin0 hown I (hR.f16 (show a1 < cN τ 3 by first | assumption | omega)) rfl (by decide) (List.mem_of_getElem? (i := 3) rfl) rfl rfl dX0_isOfGroup_23 ?_
      have b23_15 : cK τ 15 a1 < 4 := hW.2.2.2.2.2.2.1 a1 (show a1 < cN τ 3 by first | assumption | omega)
      refine lv_aload_n hx hb dX0_isOfGroup_26 rfl (lv_at hl 1 rfl) ?_
      refine xget (C := RX0) (T := TX0) (N := 8) 1 hx hb hts hin0 hown I (hR.f16 (show b1 < cN τ 3 by first | assumption | omega)) rfl (by decide) (List.mem_of_getElem? (i := 3) rfl) rfl rfl dX0_isOfGroup_27 ?_
      have b27_15 : cK τ 15 b1 < 4 := hW.2.2.2.2.2.2.1 b1 (show b1 < cN τ 3 by first | assumption | omega)
      refine lv_icmp_ne (tgt := 37) hx hb dX0_isOfGroup_30 (by decide) (fun c_30 => ?_) (fun c_30 => ?_)
      · skip
        rw [if_neg c_30] at hG
        refine lv_iconst (v := (nI 0)) hx hb dX0_isOfGroup_37 (by decide) ?_
        exact xrzR hx hb hr hlocks dX0_isOfGroup_38 hG (by have hG2 : (nI 0) = G := hG; rw [← hG2]; exact xnb (Or.inl rfl))
      · skip
        rw [if_pos c_30] at hG
        refine lv_iconst (v := (nI 1)) hx hb dX0_isOfGroup_33 (by decide) ?_
        refine lv_goto (tgt := 38) hx hb dX0_isOfGroup_34 (by decide) ?_
        exact xrzR hx hb hr hlocks dX0_isOfGroup_38 hG (by have hG2 : (nI 1) = G := hG; rw [← hG2]; exact xnb (Or.inr rfl))

def fX0_limitedLoss (τ : CT) (a1 : Nat) : Int32 := (if (cI τ 27 a1) = 0 then (if ((nI 5000) * (cI τ 21 (cK τ 12 a1))) < (cI τ 24 a1) then ((nI 5000) * (cI τ 21 (cK τ 12 a1))) else (cI τ 24 a1)) else (cI τ 24 a1))
set_option maxHeartbeats 4000000 in
set_option maxRecDepth 100000 in
theorem mX0_limitedLoss (l : Launch) (lo : Nat) (D : va_G) (E : Nat → ClassId) (h : XW) (Pr : Nat → Prop) (τ : CT) (ad : Nat → Nat → Nat) (fa : Nat → Nat → Option Nat) (hR : RC E Pr τ ad fa h) (hW : CW τ) (a1 : Nat) (h_a1 : a1 < cN τ 3) : Met l yX0_limitedLoss wsX0_limitedLoss ({ frames := 1, cells := 0, slots := 0, locals := 26 } : Room) (xP lo D E h [.ref (ad 16 a1)]) (xR (some (.int (fX0_limitedLoss τ a1)))) 0 0 (fun _ => False) := by
  obtain ⟨G, hG⟩ : ∃ G, fX0_limitedLoss τ a1 = G := ⟨_, rfl⟩
  rw [hG]
  unfold fX0_limitedLoss at hG
  refine Met.ofW (cc := cX0_limitedLoss) (maxL := 1) (ret := (some .int)) (by decide) rfl ?_
  intro p e s m args below meth c s₁ B hml hv
  obtain ⟨rfl, I⟩ := hv
  have hx := B.exec
  have hb := B.bytes
  have hr := B.returns
  have hts := atoms_spec (ws := wsX0_limitedLoss) B.pre
  have hown : s.vm.findClass RX0 = some m.cls := findClass_of_methodNamed B.named
  have hlocks := B.notSynchronized
  have hl := lv_entry ([.ref (ad 16 a1)] : List Value) (n := 1) (Nat.le_of_ble_eq_true rfl)
  rw [lg_entry_eq]
  generalize (lg_sl ([.ref (ad 16 a1)] : List Value) ++ List.replicate (1 - (lg_sl ([.ref (ad 16 a1)] : List Value)).length) Slot.unset).toArray = ls at hl ⊢
  have hl : lv_has ls 1 [(0, .ref (ad 16 a1))] := hl
  have hin5 : ∀ w ∈ u_ws RX5 TX5 4, w ∈ wsX0_limitedLoss := fun _ h => List.mem_cons_of_mem _ (List.mem_append_right _ (h))
  have hin0 : ∀ w ∈ u_ws RX0 TX0 8, w ∈ wsX0_limitedLoss := fun _ h => List.mem_cons_of_mem _ (List.mem_append_left _ (List.mem_append_right _ (h)))
  have hW0 := hW
  obtain ⟨w0, -⟩ := id hW
  refine lv_aload_n hx hb dX0_limitedLoss_0 rfl (lv_at hl 0 rfl) ?_
  refine xget (C := RX0) (T := TX0) (N := 8) 6 hx hb hts hin0 hown I (hR.f16 (show a1 < cN τ 3 by first | assumption | omega)) rfl (by decide) (List.mem_of_getElem? (i := 1) rfl) rfl rfl dX0_limitedLoss_1 ?_
  refine lv_if_eq (tgt := 14) hx hb dX0_limitedLoss_4 (by decide) (fun c_4 => ?_) (fun c_4 => ?_)
  · skip
    rw [if_pos c_4] at hG
    refine lv_aload_n hx hb dX0_limitedLoss_14 rfl (lv_at hl 0 rfl) ?_
    refine xget (C := RX0) (T := TX0) (N := 8) 3 hx hb hts hin0 hown I (hR.f16 (show a1 < cN τ 3 by first | assumption | omega)) rfl (by decide) (List.mem_of_getElem? (i := 2) rfl) rfl rfl dX0_limitedLoss_15 ?_
    refine lv_sipush (v := (nI 5000)) hx hb dX0_limitedLoss_18 (by decide) ?_
    refine lv_aload_n hx hb dX0_limitedLoss_21 rfl (lv_at hl 0 rfl) ?_
    refine xget (C := RX0) (T := TX0) (N := 8) 0 hx hb hts hin0 hown I (hR.f16 (show a1 < cN τ 3 by first | assumption | omega)) rfl (by decide) (List.mem_of_getElem? (i := 3) rfl) rfl rfl dX0_limitedLoss_22 ?_
    have b22_12 : cK τ 12 a1 < cN τ 1 := hW.2.2.2.1 a1 (show a1 < cN τ 3 by first | assumption | omega)
    refine xget (C := RX5) (T := TX5) (N := 4) 1 hx hb hts hin5 hown I (hR.f14 (show cK τ 12 a1 < cN τ 1 by first | assumption | omega)) rfl (by decide) (List.mem_of_getElem? (i := 4) rfl) rfl rfl dX0_limitedLoss_25 ?_
    refine lv_imul hx hb dX0_limitedLoss_28 ?_
    refine va_mmin hx hb (hml.trans hl.1.symm) hown (hts _ (List.mem_of_getElem? (i := 5) rfl)) (hts _ (List.mem_of_getElem? (i := 6) rfl)) (hts _ (List.mem_of_getElem? (i := 7) rfl)) (hts _ (List.mem_of_getElem? (i := 8) rfl)) (Nat.le_of_ble_eq_true rfl) (Nat.le_of_ble_eq_true rfl) (Nat.le_of_ble_eq_true rfl) (Nat.le_of_ble_eq_true rfl) dX0_limitedLoss_29 ?_
    exact xriR hx hb hr hlocks dX0_limitedLoss_32 hG
  · skip
    rw [if_neg c_4] at hG
    refine lv_aload_n hx hb dX0_limitedLoss_7 rfl (lv_at hl 0 rfl) ?_
    refine xget (C := RX0) (T := TX0) (N := 8) 3 hx hb hts hin0 hown I (hR.f16 (show a1 < cN τ 3 by first | assumption | omega)) rfl (by decide) (List.mem_of_getElem? (i := 2) rfl) rfl rfl dX0_limitedLoss_8 ?_
    refine lv_goto (tgt := 32) hx hb dX0_limitedLoss_11 (by decide) ?_
    exact xriR hx hb hr hlocks dX0_limitedLoss_32 hG

def fX1_isOn (τ : CT) (a1 : Nat) (d1 : Int32) : Int32 := (if d1 < (cI τ 22 a1) then (nI 0) else (if (cI τ 23 a1) ≤ d1 then (nI 0) else (nI 1)))
set_option maxHeartbeats 4000000 in
set_option maxRecDepth 100000 in
theorem mX1_isOn (l : Launch) (lo : Nat) (D : va_G) (E : Nat → ClassId) (h : XW) (Pr : Nat → Prop) (τ : CT) (ad : Nat → Nat → Nat) (fa : Nat → Nat → Option Nat) (hR : RC E Pr τ ad fa h) (hW : CW τ) (a1 : Nat) (d1 : Int32) (h_a1 : a1 < cN τ 2) : Met l yX1_isOn wsX1_isOn ({ frames := 0, cells := 0, slots := 0, locals := 0 } : Room) (xP lo D E h [.ref (ad 15 a1), .int d1]) (xR (some (.int (fX1_isOn τ a1 d1)))) 0 0 (fun _ => False) := by
  obtain ⟨G, hG⟩ : ∃ G, fX1_isOn τ a1 d1 = G := ⟨_, rfl⟩
  rw [hG]
  unfold fX1_isOn at hG
  refine Met.ofW (cc := cX1_isOn) (maxL := 2) (ret := (some .boolean)) (by decide) rfl ?_
  intro p e s m args below meth c s₁ B hml hv
  obtain ⟨rfl, I⟩ := hv
  have hx := B.exec
  have hb := B.bytes
  have hr := B.returns
  have hts := atoms_spec (ws := wsX1_isOn) B.pre
  have hown : s.vm.findClass RX1 = some m.cls := findClass_of_methodNamed B.named
  have hlocks := B.notSynchronized
  have hl := lv_entry ([.ref (ad 15 a1), .int d1] : List Value) (n := 2) (Nat.le_of_ble_eq_true rfl)
  rw [lg_entry_eq]
  generalize (lg_sl ([.ref (ad 15 a1), .int d1] : List Value) ++ List.replicate (2 - (lg_sl ([.ref (ad 15 a1), .int d1] : List Value)).length) Slot.unset).toArray = ls at hl ⊢
  have hl : lv_has ls 2 [(0, .ref (ad 15 a1)), (1, .int d1)] := hl
  have hin1 : ∀ w ∈ u_ws RX1 TX1 3, w ∈ wsX1_isOn := fun _ h => List.mem_cons_of_mem _ (List.mem_append_right _ (h))
  have hW0 := hW
  obtain ⟨w0, -⟩ := id hW
  refine lv_aload_n hx hb dX1_isOn_0 rfl (lv_at hl 0 rfl) ?_
  refine xget (C := RX1) (T := TX1) (N := 3) 1 hx hb hts hin1 hown I (hR.f15 (show a1 < cN τ 2 by first | assumption | omega)) rfl (by decide) (List.mem_of_getElem? (i := 1) rfl) rfl rfl dX1_isOn_1 ?_
  refine lv_iload_n hx hb dX1_isOn_4 rfl (lv_at hl 1 rfl) ?_
  refine lv_icmp_gt (tgt := 20) hx hb dX1_isOn_5 (by decide) (fun c_5 => ?_) (fun c_5 => ?_)
  · skip
    rw [if_pos c_5] at hG
    refine lv_iconst (v := (nI 0)) hx hb dX1_isOn_20 (by decide) ?_
    exact xrzR hx hb hr hlocks dX1_isOn_21 hG (by have hG2 : (nI 0) = G := hG; rw [← hG2]; exact xnb (Or.inl rfl))
  · skip
    rw [if_neg c_5] at hG
    refine lv_iload_n hx hb dX1_isOn_8 rfl (lv_at hl 1 rfl) ?_
    refine lv_aload_n hx hb dX1_isOn_9 rfl (lv_at hl 0 rfl) ?_
    refine xget (C := RX1) (T := TX1) (N := 3) 2 hx hb hts hin1 hown I (hR.f15 (show a1 < cN τ 2 by first | assumption | omega)) rfl (by decide) (List.mem_of_getElem? (i := 2) rfl) rfl rfl dX1_isOn_10 ?_
    refine lv_icmp_ge (tgt := 20) hx hb dX1_isOn_13 (by decide) (fun c_13 => ?_) (fun c_13 => ?_)
    · skip
      rw [if_pos c_13] at hG
      refine lv_iconst (v := (nI 0)) hx hb dX1_isOn_20 (by decide) ?_
      exact xrzR hx hb hr hlocks dX1_isOn_21 hG (by have hG2 : (nI 0) = G := hG; rw [← hG2]; exact xnb (Or.inl rfl))
    · skip
      rw [if_neg c_13] at hG
      refine lv_iconst (v := (nI 1)) hx hb dX1_isOn_16 (by decide) ?_
      refine lv_goto (tgt := 21) hx hb dX1_isOn_17 (by decide) ?_
      exact xrzR hx hb hr hlocks dX1_isOn_21 hG (by have hG2 : (nI 1) = G := hG; rw [← hG2]; exact xnb (Or.inr rfl))

def fX1_daysIn (τ : CT) (a1 : Nat) (y1 : Nat) : Int32 := (if ((if (nI ((y1 + 1) * 100)) < (cI τ 23 a1) then (nI ((y1 + 1) * 100)) else (cI τ 23 a1)) - (if (cI τ 22 a1) < (nI (y1 * 100)) then (nI (y1 * 100)) else (cI τ 22 a1))) < (nI 0) then (nI 0) else ((if (nI ((y1 + 1) * 100)) < (cI τ 23 a1) then (nI ((y1 + 1) * 100)) else (cI τ 23 a1)) - (if (cI τ 22 a1) < (nI (y1 * 100)) then (nI (y1 * 100)) else (cI τ 22 a1))))
set_option maxHeartbeats 4000000 in
set_option maxRecDepth 100000 in
theorem mX1_daysIn (l : Launch) (lo : Nat) (D : va_G) (E : Nat → ClassId) (h : XW) (Pr : Nat → Prop) (τ : CT) (ad : Nat → Nat → Nat) (fa : Nat → Nat → Option Nat) (hR : RC E Pr τ ad fa h) (hW : CW τ) (a1 : Nat) (y1 : Nat) (h_a1 : a1 < cN τ 2) : Met l yX1_daysIn wsX1_daysIn ({ frames := 1, cells := 0, slots := 0, locals := 26 } : Room) (xP lo D E h [.ref (ad 15 a1), .int (nI y1)]) (xR (some (.int (fX1_daysIn τ a1 y1)))) 0 0 (fun _ => False) := by
  obtain ⟨G, hG⟩ : ∃ G, fX1_daysIn τ a1 y1 = G := ⟨_, rfl⟩
  rw [hG]
  unfold fX1_daysIn at hG
  refine Met.ofW (cc := cX1_daysIn) (maxL := 4) (ret := (some .int)) (by decide) rfl ?_
  intro p e s m args below meth c s₁ B hml hv
  obtain ⟨rfl, I⟩ := hv
  have hx := B.exec
  have hb := B.bytes
  have hr := B.returns
  have hts := atoms_spec (ws := wsX1_daysIn) B.pre
  have hown : s.vm.findClass RX1 = some m.cls := findClass_of_methodNamed B.named
  have hlocks := B.notSynchronized
  have hl := lv_entry ([.ref (ad 15 a1), .int (nI y1)] : List Value) (n := 4) (Nat.le_of_ble_eq_true rfl)
  rw [lg_entry_eq]
  generalize (lg_sl ([.ref (ad 15 a1), .int (nI y1)] : List Value) ++ List.replicate (4 - (lg_sl ([.ref (ad 15 a1), .int (nI y1)] : List Value)).length) Slot.unset).toArray = ls at hl ⊢
  have hl : lv_has ls 4 [(0, .ref (ad 15 a1)), (1, .int (nI y1))] := hl
  have hin1 : ∀ w ∈ u_ws RX1 TX1 3, w ∈ wsX1_daysIn := fun _ h => List.mem_cons_of_mem _ (List.mem_append_right _ (h))
  have hW0 := hW
  obtain ⟨w0, -⟩ := id hW
  refine lv_aload_n hx hb dX1_daysIn_0 rfl (lv_at hl 0 rfl) ?_
  refine xget (C := RX1) (T := TX1) (N := 3) 1 hx hb hts hin1 hown I (hR.f15 (show a1 < cN τ 2 by first | assumption | omega)) rfl (by decide) (List.mem_of_getElem? (i := 1) rfl) rfl rfl dX1_daysIn_1 ?_
  refine lv_iload_n hx hb dX1_daysIn_4 rfl (lv_at hl 1 rfl) ?_
  refine lv_bipush (v := (nI 100)) hx hb dX1_daysIn_5 (by decide) ?_
  refine lv_imul hx hb dX1_daysIn_7 ?_
  refine xtop (y := .int (nI (y1 * 100))) (congrArg Value.int (pk_mul _ _)) ?_
  refine va_mmax hx hb (hml.trans hl.1.symm) hown (hts _ (List.mem_of_getElem? (i := 2) rfl)) (hts _ (List.mem_of_getElem? (i := 3) rfl)) (hts _ (List.mem_of_getElem? (i := 4) rfl)) (hts _ (List.mem_of_getElem? (i := 5) rfl)) (Nat.le_of_ble_eq_true rfl) (Nat.le_of_ble_eq_true rfl) (Nat.le_of_ble_eq_true rfl) (Nat.le_of_ble_eq_true rfl) dX1_daysIn_8 ?_
  refine lv_istore_n (lv' := [(2, .int (if (cI τ 22 a1) < (nI (y1 * 100)) then (nI (y1 * 100)) else (cI τ 22 a1))), (0, .ref (ad 15 a1)), (1, .int (nI y1))]) hx hb dX1_daysIn_11 rfl hl (by decide) rfl (fun ls hl => ?_)
  refine lv_aload_n hx hb dX1_daysIn_12 rfl (lv_at hl 1 rfl) ?_
  refine xget (C := RX1) (T := TX1) (N := 3) 2 hx hb hts hin1 hown I (hR.f15 (show a1 < cN τ 2 by first | assumption | omega)) rfl (by decide) (List.mem_of_getElem? (i := 6) rfl) rfl rfl dX1_daysIn_13 ?_
  refine lv_iload_n hx hb dX1_daysIn_16 rfl (lv_at hl 2 rfl) ?_
  refine lv_iconst (v := (nI 1)) hx hb dX1_daysIn_17 (by decide) ?_
  refine lv_iadd hx hb dX1_daysIn_18 ?_
  refine xtop (y := .int (nI (y1 + 1))) (congrArg Value.int (nI_add _ _)) ?_
  refine lv_bipush (v := (nI 100)) hx hb dX1_daysIn_19 (by decide) ?_
  refine lv_imul hx hb dX1_daysIn_21 ?_
  refine xtop (y := .int (nI ((y1 + 1) * 100))) (congrArg Value.int (pk_mul _ _)) ?_
  refine va_mmin hx hb (hml.trans hl.1.symm) hown (hts _ (List.mem_of_getElem? (i := 7) rfl)) (hts _ (List.mem_of_getElem? (i := 8) rfl)) (hts _ (List.mem_of_getElem? (i := 4) rfl)) (hts _ (List.mem_of_getElem? (i := 9) rfl)) (Nat.le_of_ble_eq_true rfl) (Nat.le_of_ble_eq_true rfl) (Nat.le_of_ble_eq_true rfl) (Nat.le_of_ble_eq_true rfl) dX1_daysIn_22 ?_
  refine lv_istore_n (lv' := [(3, .int (if (nI ((y1 + 1) * 100)) < (cI τ 23 a1) then (nI ((y1 + 1) * 100)) else (cI τ 23 a1))), (2, .int (if (cI τ 22 a1) < (nI (y1 * 100)) then (nI (y1 * 100)) else (cI τ 22 a1))), (0, .ref (ad 15 a1)), (1, .int (nI y1))]) hx hb dX1_daysIn_25 rfl hl (by decide) rfl (fun ls hl => ?_)
  refine lv_iload_n hx hb dX1_daysIn_26 rfl (lv_at hl 0 rfl) ?_
  refine lv_iload_n hx hb dX1_daysIn_27 rfl (lv_at hl 1 rfl) ?_
  refine lv_isub hx hb dX1_daysIn_28 ?_
  refine lv_iconst (v := (nI 0)) hx hb dX1_daysIn_29 (by decide) ?_
  refine va_mmax hx hb (hml.trans hl.1.symm) hown (hts _ (List.mem_of_getElem? (i := 2) rfl)) (hts _ (List.mem_of_getElem? (i := 3) rfl)) (hts _ (List.mem_of_getElem? (i := 4) rfl)) (hts _ (List.mem_of_getElem? (i := 5) rfl)) (Nat.le_of_ble_eq_true rfl) (Nat.le_of_ble_eq_true rfl) (Nat.le_of_ble_eq_true rfl) (Nat.le_of_ble_eq_true rfl) dX1_daysIn_30 ?_
  exact xriR hx hb hr hlocks dX1_daysIn_33 hG

def fX3_rated (τ : CT) (a1 : Nat) (t1 : Int64) (y1 : Nat) : Int64 := ((t1 * (cM τ 0 a1 y1).toInt64) / (100 : Int64))
set_option maxHeartbeats 4000000 in
set_option maxRecDepth 100000 in
theorem mX3_rated (l : Launch) (lo : Nat) (D : va_G) (E : Nat → ClassId) (h : XW) (Pr : Nat → Prop) (τ : CT) (ad : Nat → Nat → Nat) (fa : Nat → Nat → Option Nat) (hR : RC E Pr τ ad fa h) (hW : CW τ) (a1 : Nat) (t1 : Int64) (y1 : Nat) (h_a1 : a1 < cN τ 0) (hy : y1 < 20) : Met l yX3_rated wsX3_rated ({ frames := 0, cells := 0, slots := 0, locals := 0 } : Room) (xP lo D E h [.ref (ad 10 a1), .long t1, .int (nI y1)]) (xR (some (.long (fX3_rated τ a1 t1 y1)))) 0 0 (fun _ => False) := by
  obtain ⟨G, hG⟩ : ∃ G, fX3_rated τ a1 t1 y1 = G := ⟨_, rfl⟩
  rw [hG]
  unfold fX3_rated at hG
  refine Met.ofW (cc := cX3_rated) (maxL := 4) (ret := (some .long)) (by decide) rfl ?_
  intro p e s m args below meth c s₁ B hml hv
  obtain ⟨rfl, I⟩ := hv
  have hx := B.exec
  have hb := B.bytes
  have hr := B.returns
  have hts := atoms_spec (ws := wsX3_rated) B.pre
  have hown : s.vm.findClass RX3 = some m.cls := findClass_of_methodNamed B.named
  have hlocks := B.notSynchronized
  have hl := lv_entry ([.ref (ad 10 a1), .long t1, .int (nI y1)] : List Value) (n := 4) (Nat.le_of_ble_eq_true rfl)
  rw [lg_entry_eq]
  generalize (lg_sl ([.ref (ad 10 a1), .long t1, .int (nI y1)] : List Value) ++ List.replicate (4 - (lg_sl ([.ref (ad 10 a1), .long t1, .int (nI y1)] : List Value)).length) Slot.unset).toArray = ls at hl ⊢
  have hl : lv_has ls 4 [(0, .ref (ad 10 a1)), (1, .long t1), (3, .int (nI y1))] := hl
  have hin3 : ∀ w ∈ u_ws RX3 TX3 5, w ∈ wsX3_rated := fun _ h => List.mem_cons_of_mem _ (List.mem_append_right _ (h))
  have hW0 := hW
  obtain ⟨w0, -⟩ := id hW
  refine lv_lload_n hx hb dX3_rated_0 rfl (lv_at hl 1 rfl) ?_
  refine lv_aload_n hx hb dX3_rated_1 rfl (lv_at hl 0 rfl) ?_
  refine xget (C := RX3) (T := TX3) (N := 5) 0 hx hb hts hin3 hown I (hR.f10 (show a1 < cN τ 0 by first | assumption | omega)) rfl (by decide) (List.mem_of_getElem? (i := 1) rfl) rfl rfl dX3_rated_2 ?_
  refine lv_iload_n hx hb dX3_rated_5 rfl (lv_at hl 2 rfl) ?_
  refine xiald (i := y1) (n := 20) hx hb I (hR.f11 (show a1 < cN τ 0 by first | assumption | omega)) (by omega) (by decide) dX3_rated_6 ?_
  refine lv_i2l (v := (cM τ 0 a1 y1).toInt64) hx hb dX3_rated_7 rfl ?_
  refine lv_lmul hx hb dX3_rated_8 ?_
  refine lv_ldc2 (v := (100 : Int64)) hx hb hown (hts _ (List.mem_of_getElem? (i := 2) rfl)) dX3_rated_9 ?_
  refine lv_ldiv hx hb dX3_rated_12 (by decide) ?_
  exact xrlR hx hb hr hlocks dX3_rated_13 hG

def fX3_isStoppedOn (τ : CT) (a1 : Nat) (d1 : Int32) : Int32 := (if (cI τ 20 a1) = (-1) then (nI 0) else (if d1 < (cI τ 20 a1) then (nI 0) else (nI 1)))
set_option maxHeartbeats 4000000 in
set_option maxRecDepth 100000 in
theorem mX3_isStoppedOn (l : Launch) (lo : Nat) (D : va_G) (E : Nat → ClassId) (h : XW) (Pr : Nat → Prop) (τ : CT) (ad : Nat → Nat → Nat) (fa : Nat → Nat → Option Nat) (hR : RC E Pr τ ad fa h) (hW : CW τ) (a1 : Nat) (d1 : Int32) (h_a1 : a1 < cN τ 0) : Met l yX3_isStoppedOn wsX3_isStoppedOn ({ frames := 0, cells := 0, slots := 0, locals := 0 } : Room) (xP lo D E h [.ref (ad 10 a1), .int d1]) (xR (some (.int (fX3_isStoppedOn τ a1 d1)))) 0 0 (fun _ => False) := by
  obtain ⟨G, hG⟩ : ∃ G, fX3_isStoppedOn τ a1 d1 = G := ⟨_, rfl⟩
  rw [hG]
  unfold fX3_isStoppedOn at hG
  refine Met.ofW (cc := cX3_isStoppedOn) (maxL := 2) (ret := (some .boolean)) (by decide) rfl ?_
  intro p e s m args below meth c s₁ B hml hv
  obtain ⟨rfl, I⟩ := hv
  have hx := B.exec
  have hb := B.bytes
  have hr := B.returns
  have hts := atoms_spec (ws := wsX3_isStoppedOn) B.pre
  have hown : s.vm.findClass RX3 = some m.cls := findClass_of_methodNamed B.named
  have hlocks := B.notSynchronized
  have hl := lv_entry ([.ref (ad 10 a1), .int d1] : List Value) (n := 2) (Nat.le_of_ble_eq_true rfl)
  rw [lg_entry_eq]
  generalize (lg_sl ([.ref (ad 10 a1), .int d1] : List Value) ++ List.replicate (2 - (lg_sl ([.ref (ad 10 a1), .int d1] : List Value)).length) Slot.unset).toArray = ls at hl ⊢
  have hl : lv_has ls 2 [(0, .ref (ad 10 a1)), (1, .int d1)] := hl
  have hin3 : ∀ w ∈ u_ws RX3 TX3 5, w ∈ wsX3_isStoppedOn := fun _ h => List.mem_cons_of_mem _ (List.mem_append_right _ (h))
  have hW0 := hW
  obtain ⟨w0, -⟩ := id hW
  refine lv_aload_n hx hb dX3_isStoppedOn_0 rfl (lv_at hl 0 rfl) ?_
  refine xget (C := RX3) (T := TX3) (N := 5) 4 hx hb hts hin3 hown I (hR.f10 (show a1 < cN τ 0 by first | assumption | omega)) rfl (by decide) (List.mem_of_getElem? (i := 1) rfl) rfl rfl dX3_isStoppedOn_1 ?_
  refine lv_iconst (v := (-1)) hx hb dX3_isStoppedOn_4 (by decide) ?_
  refine lv_icmp_eq (tgt := 20) hx hb dX3_isStoppedOn_5 (by decide) (fun c_5 => ?_) (fun c_5 => ?_)
  · skip
    rw [if_pos c_5] at hG
    refine lv_iconst (v := (nI 0)) hx hb dX3_isStoppedOn_20 (by decide) ?_
    exact xrzR hx hb hr hlocks dX3_isStoppedOn_21 hG (by have hG2 : (nI 0) = G := hG; rw [← hG2]; exact xnb (Or.inl rfl))
  · skip
    rw [if_neg c_5] at hG
    refine lv_aload_n hx hb dX3_isStoppedOn_8 rfl (lv_at hl 0 rfl) ?_
    refine xget (C := RX3) (T := TX3) (N := 5) 4 hx hb hts hin3 hown I (hR.f10 (show a1 < cN τ 0 by first | assumption | omega)) rfl (by decide) (List.mem_of_getElem? (i := 1) rfl) rfl rfl dX3_isStoppedOn_9 ?_
    refine lv_iload_n hx hb dX3_isStoppedOn_12 rfl (lv_at hl 1 rfl) ?_
    refine lv_icmp_gt (tgt := 20) hx hb dX3_isStoppedOn_13 (by decide) (fun c_13 => ?_) (fun c_13 => ?_)
    · skip
      rw [if_pos c_13] at hG
      refine lv_iconst (v := (nI 0)) hx hb dX3_isStoppedOn_20 (by decide) ?_
      exact xrzR hx hb hr hlocks dX3_isStoppedOn_21 hG (by have hG2 : (nI 0) = G := hG; rw [← hG2]; exact xnb (Or.inl rfl))
    · skip
      rw [if_neg c_13] at hG
      refine lv_iconst (v := (nI 1)) hx hb dX3_isStoppedOn_16 (by decide) ?_
      refine lv_goto (tgt := 21) hx hb dX3_isStoppedOn_17 (by decide) ?_
      exact xrzR hx hb hr hlocks dX3_isStoppedOn_21 hG (by have hG2 : (nI 1) = G := hG; rw [← hG2]; exact xnb (Or.inr rfl))

def fX6_borneOf (τ : CT) (a1 : Nat) (x1 : Int64) : Int64 := (if (cI τ 34 a1) = 0 then x1 else (if (cI τ 35 a1).toInt64 < x1 then (((cI τ 35 a1).toInt64 + ((((if (cI τ 36 a1).toInt64 < x1 then (cI τ 36 a1).toInt64 else x1) - (cI τ 35 a1).toInt64) * (cI τ 37 a1).toInt64) / (100 : Int64))) + (if (0 : Int64) < (x1 - (cI τ 36 a1).toInt64) then (x1 - (cI τ 36 a1).toInt64) else (0 : Int64))) else x1))
set_option maxHeartbeats 4000000 in
set_option maxRecDepth 100000 in
theorem mX6_borneOf (l : Launch) (lo : Nat) (D : va_G) (E : Nat → ClassId) (h : XW) (Pr : Nat → Prop) (τ : CT) (ad : Nat → Nat → Nat) (fa : Nat → Nat → Option Nat) (hR : RC E Pr τ ad fa h) (hW : CW τ) (a1 : Nat) (x1 : Int64) (h_a1 : a1 < 20) : Met l yX6_borneOf wsX6_borneOf ({ frames := 1, cells := 0, slots := 0, locals := 26 } : Room) (xP lo D E h [.ref (ad 18 a1), .long x1]) (xR (some (.long (fX6_borneOf τ a1 x1)))) 0 0 (fun _ => False) := by
  obtain ⟨G, hG⟩ : ∃ G, fX6_borneOf τ a1 x1 = G := ⟨_, rfl⟩
  rw [hG]
  unfold fX6_borneOf at hG
  refine Met.ofW (cc := cX6_borneOf) (maxL := 5) (ret := (some .long)) (by decide) rfl ?_
  intro p e s m args below meth c s₁ B hml hv
  obtain ⟨rfl, I⟩ := hv
  have hx := B.exec
  have hb := B.bytes
  have hr := B.returns
  have hts := atoms_spec (ws := wsX6_borneOf) B.pre
  have hown : s.vm.findClass RX6 = some m.cls := findClass_of_methodNamed B.named
  have hlocks := B.notSynchronized
  have hl := lv_entry ([.ref (ad 18 a1), .long x1] : List Value) (n := 5) (Nat.le_of_ble_eq_true rfl)
  rw [lg_entry_eq]
  generalize (lg_sl ([.ref (ad 18 a1), .long x1] : List Value) ++ List.replicate (5 - (lg_sl ([.ref (ad 18 a1), .long x1] : List Value)).length) Slot.unset).toArray = ls at hl ⊢
  have hl : lv_has ls 5 [(0, .ref (ad 18 a1)), (1, .long x1)] := hl
  have hin6 : ∀ w ∈ u_ws RX6 TX6 7, w ∈ wsX6_borneOf := fun _ h => List.mem_cons_of_mem _ (List.mem_append_right _ (h))
  have hW0 := hW
  obtain ⟨w0, -⟩ := id hW
  refine lv_aload_n hx hb dX6_borneOf_0 rfl (lv_at hl 0 rfl) ?_
  refine xget (C := RX6) (T := TX6) (N := 7) 3 hx hb hts hin6 hown I (hR.f18 (show a1 < 20 by first | assumption | omega)) rfl (by decide) (List.mem_of_getElem? (i := 1) rfl) rfl rfl dX6_borneOf_1 ?_
  refine lv_if_eq (tgt := 17) hx hb dX6_borneOf_4 (by decide) (fun c_4 => ?_) (fun c_4 => ?_)
  · skip
    rw [if_pos c_4] at hG
    refine lv_lload_n hx hb dX6_borneOf_17 rfl (lv_at hl 1 rfl) ?_
    exact xrlR hx hb hr hlocks dX6_borneOf_18 hG
  · skip
    rw [if_neg c_4] at hG
    refine lv_lload_n hx hb dX6_borneOf_7 rfl (lv_at hl 1 rfl) ?_
    refine lv_aload_n hx hb dX6_borneOf_8 rfl (lv_at hl 0 rfl) ?_
    refine xget (C := RX6) (T := TX6) (N := 7) 4 hx hb hts hin6 hown I (hR.f18 (show a1 < 20 by first | assumption | omega)) rfl (by decide) (List.mem_of_getElem? (i := 2) rfl) rfl rfl dX6_borneOf_9 ?_
    refine lv_i2l (v := (cI τ 35 a1).toInt64) hx hb dX6_borneOf_12 rfl ?_
    refine xl_gt (tgt := 19) hx hb dX6_borneOf_13 dX6_borneOf_14 (by decide) (fun c_13 => ?_) (fun c_13 => ?_)
    · skip
      rw [if_pos c_13] at hG
      refine lv_lload_n hx hb dX6_borneOf_19 rfl (lv_at hl 1 rfl) ?_
      refine lv_aload_n hx hb dX6_borneOf_20 rfl (lv_at hl 0 rfl) ?_
      refine xget (C := RX6) (T := TX6) (N := 7) 5 hx hb hts hin6 hown I (hR.f18 (show a1 < 20 by first | assumption | omega)) rfl (by decide) (List.mem_of_getElem? (i := 3) rfl) rfl rfl dX6_borneOf_21 ?_
      refine lv_i2l (v := (cI τ 36 a1).toInt64) hx hb dX6_borneOf_24 rfl ?_
      refine va_mmin_long hx hb (hml.trans hl.1.symm) hown (hts _ (List.mem_of_getElem? (i := 4) rfl)) (hts _ (List.mem_of_getElem? (i := 5) rfl)) (hts _ (List.mem_of_getElem? (i := 6) rfl)) (hts _ (List.mem_of_getElem? (i := 7) rfl)) (Nat.le_of_ble_eq_true rfl) (Nat.le_of_ble_eq_true rfl) (Nat.le_of_ble_eq_true rfl) (Nat.le_of_ble_eq_true rfl) dX6_borneOf_25 ?_
      refine lv_aload_n hx hb dX6_borneOf_28 rfl (lv_at hl 0 rfl) ?_
      refine xget (C := RX6) (T := TX6) (N := 7) 4 hx hb hts hin6 hown I (hR.f18 (show a1 < 20 by first | assumption | omega)) rfl (by decide) (List.mem_of_getElem? (i := 2) rfl) rfl rfl dX6_borneOf_29 ?_
      refine lv_i2l (v := (cI τ 35 a1).toInt64) hx hb dX6_borneOf_32 rfl ?_
      refine lv_lsub hx hb dX6_borneOf_33 ?_
      refine lv_lstore_n (lv' := [(3, .long ((if (cI τ 36 a1).toInt64 < x1 then (cI τ 36 a1).toInt64 else x1) - (cI τ 35 a1).toInt64)), (0, .ref (ad 18 a1)), (1, .long x1)]) hx hb dX6_borneOf_34 rfl hl (by decide) rfl (fun ls hl => ?_)
      refine lv_aload_n hx hb dX6_borneOf_35 rfl (lv_at hl 1 rfl) ?_
      refine xget (C := RX6) (T := TX6) (N := 7) 4 hx hb hts hin6 hown I (hR.f18 (show a1 < 20 by first | assumption | omega)) rfl (by decide) (List.mem_of_getElem? (i := 2) rfl) rfl rfl dX6_borneOf_36 ?_
      refine lv_i2l (v := (cI τ 35 a1).toInt64) hx hb dX6_borneOf_39 rfl ?_
      refine lv_lload_n hx hb dX6_borneOf_40 rfl (lv_at hl 0 rfl) ?_
      refine lv_aload_n hx hb dX6_borneOf_41 rfl (lv_at hl 1 rfl) ?_
      refine xget (C := RX6) (T := TX6) (N := 7) 6 hx hb hts hin6 hown I (hR.f18 (show a1 < 20 by first | assumption | omega)) rfl (by decide) (List.mem_of_getElem? (i := 8) rfl) rfl rfl dX6_borneOf_42 ?_
      refine lv_i2l (v := (cI τ 37 a1).toInt64) hx hb dX6_borneOf_45 rfl ?_
      refine lv_lmul hx hb dX6_borneOf_46 ?_
      refine lv_ldc2 (v := (100 : Int64)) hx hb hown (hts _ (List.mem_of_getElem? (i := 9) rfl)) dX6_borneOf_47 ?_
      refine lv_ldiv hx hb dX6_borneOf_50 (by decide) ?_
      refine lv_ladd hx hb dX6_borneOf_51 ?_
      refine lv_lload_n hx hb dX6_borneOf_52 rfl (lv_at hl 2 rfl) ?_
      refine lv_aload_n hx hb dX6_borneOf_53 rfl (lv_at hl 1 rfl) ?_
      refine xget (C := RX6) (T := TX6) (N := 7) 5 hx hb hts hin6 hown I (hR.f18 (show a1 < 20 by first | assumption | omega)) rfl (by decide) (List.mem_of_getElem? (i := 3) rfl) rfl rfl dX6_borneOf_54 ?_
      refine lv_i2l (v := (cI τ 36 a1).toInt64) hx hb dX6_borneOf_57 rfl ?_
      refine lv_lsub hx hb dX6_borneOf_58 ?_
      refine lv_lconst (v := (0 : Int64)) hx hb dX6_borneOf_59 rfl ?_
      refine va_mmax_long hx hb (hml.trans hl.1.symm) hown (hts _ (List.mem_of_getElem? (i := 10) rfl)) (hts _ (List.mem_of_getElem? (i := 11) rfl)) (hts _ (List.mem_of_getElem? (i := 6) rfl)) (hts _ (List.mem_of_getElem? (i := 12) rfl)) (Nat.le_of_ble_eq_true rfl) (Nat.le_of_ble_eq_true rfl) (Nat.le_of_ble_eq_true rfl) (Nat.le_of_ble_eq_true rfl) dX6_borneOf_60 ?_
      refine lv_ladd hx hb dX6_borneOf_63 ?_
      exact xrlR hx hb hr hlocks dX6_borneOf_64 hG
    · skip
      rw [if_neg c_13] at hG
      refine lv_lload_n hx hb dX6_borneOf_17 rfl (lv_at hl 1 rfl) ?_
      exact xrlR hx hb hr hlocks dX6_borneOf_18 hG

def fJ9_floorDiv_f86c9 (x1 : Int64) (x2 : Int64) : Int64 := (if (0 : Int64) ≤ (x1 ^^^ x2) then (x1 / x2) else (if ((x1 / x2) * x2) = x1 then (x1 / x2) else ((x1 / x2) - (1 : Int64))))
set_option maxHeartbeats 4000000 in
set_option maxRecDepth 100000 in
theorem mJ9_floorDiv_f86c9 (l : Launch) (lo : Nat) (D : va_G) (E : Nat → ClassId) (h : XW) (x1 : Int64) (x2 : Int64) (hne : ¬ x2 = 0) : Met l yJ9_floorDiv_f86c9 wsJ9_floorDiv_f86c9 ({ frames := 0, cells := 0, slots := 0, locals := 0 } : Room) (xP lo D E h [.long x1, .long x2]) (xR (some (.long (fJ9_floorDiv_f86c9 x1 x2)))) 0 0 (fun _ => False) := by
  obtain ⟨G, hG⟩ : ∃ G, fJ9_floorDiv_f86c9 x1 x2 = G := ⟨_, rfl⟩
  rw [hG]
  unfold fJ9_floorDiv_f86c9 at hG
  refine xofWF (cc := cJ9_floorDiv_f86c9) (maxL := 6) (ret := (some .long)) (by decide +kernel) rfl ?_
  intro p e s m args below meth c s₁ B hml hv
  obtain ⟨rfl, I⟩ := hv
  have hx := B.exec
  have hb := B.bytes
  have hr := B.returns
  have hts := atoms_spec (ws := wsJ9_floorDiv_f86c9) B.pre
  have hown : s.vm.findClass RJ9 = some m.cls := findClass_of_methodNamed B.named
  have hlocks := B.notSynchronized
  have hl := lv_entry ([.long x1, .long x2] : List Value) (n := 6) (Nat.le_of_ble_eq_true rfl)
  rw [lg_entry_eq]
  generalize (lg_sl ([.long x1, .long x2] : List Value) ++ List.replicate (6 - (lg_sl ([.long x1, .long x2] : List Value)).length) Slot.unset).toArray = ls at hl ⊢
  have hl : lv_has ls 6 [(0, .long x1), (2, .long x2)] := hl
  refine lv_lload_n hx hb dJ9_floorDiv_f86c9_0 rfl (lv_at hl 0 rfl) ?_
  refine lv_lload_n hx hb dJ9_floorDiv_f86c9_1 rfl (lv_at hl 1 rfl) ?_
  refine lv_ldiv hx hb dJ9_floorDiv_f86c9_2 hne ?_
  refine lv_lstore (lv' := [(4, .long (x1 / x2)), (0, .long x1), (2, .long x2)]) hx hb dJ9_floorDiv_f86c9_3 hl (by decide) rfl (fun ls hl => ?_)
  refine lv_lload_n hx hb dJ9_floorDiv_f86c9_5 rfl (lv_at hl 1 rfl) ?_
  refine lv_lload_n hx hb dJ9_floorDiv_f86c9_6 rfl (lv_at hl 2 rfl) ?_
  refine lv_lxor hx hb dJ9_floorDiv_f86c9_7 ?_
  refine lv_lconst (v := (0 : Int64)) hx hb dJ9_floorDiv_f86c9_8 rfl ?_
  refine xl_ge (tgt := 27) hx hb dJ9_floorDiv_f86c9_9 dJ9_floorDiv_f86c9_10 (by decide) (fun c_9 => ?_) (fun c_9 => ?_)
  · skip
    rw [if_pos c_9] at hG
    refine lv_lload hx hb dJ9_floorDiv_f86c9_27 (lv_at hl 0 rfl) ?_
    exact xrlR hx hb hr hlocks dJ9_floorDiv_f86c9_29 hG
  · skip
    rw [if_neg c_9] at hG
    refine lv_lload hx hb dJ9_floorDiv_f86c9_13 (lv_at hl 0 rfl) ?_
    refine lv_lload_n hx hb dJ9_floorDiv_f86c9_15 rfl (lv_at hl 2 rfl) ?_
    refine lv_lmul hx hb dJ9_floorDiv_f86c9_16 ?_
    refine lv_lload_n hx hb dJ9_floorDiv_f86c9_17 rfl (lv_at hl 1 rfl) ?_
    refine xl_eq (tgt := 27) hx hb dJ9_floorDiv_f86c9_18 dJ9_floorDiv_f86c9_19 (by decide) (fun c_18 => ?_) (fun c_18 => ?_)
    · skip
      rw [if_pos c_18] at hG
      refine lv_lload hx hb dJ9_floorDiv_f86c9_27 (lv_at hl 0 rfl) ?_
      exact xrlR hx hb hr hlocks dJ9_floorDiv_f86c9_29 hG
    · skip
      rw [if_neg c_18] at hG
      refine lv_lload hx hb dJ9_floorDiv_f86c9_22 (lv_at hl 0 rfl) ?_
      refine lv_lconst (v := (1 : Int64)) hx hb dJ9_floorDiv_f86c9_24 rfl ?_
      refine lv_lsub hx hb dJ9_floorDiv_f86c9_25 ?_
      exact xrlR hx hb hr hlocks dJ9_floorDiv_f86c9_26 hG

def fX7_yearOfDay (d1 : Nat) : Int32 := (nI (d1 / 100))
set_option maxHeartbeats 4000000 in
set_option maxRecDepth 100000 in
theorem mX7_yearOfDay (l : Launch) (lo : Nat) (D : va_G) (E : Nat → ClassId) (h : XW) (d1 : Nat) (hd : d1 < 2 ^ 31) : Met l yX7_yearOfDay wsX7_yearOfDay ({ frames := 0, cells := 0, slots := 0, locals := 0 } : Room) (xP lo D E h [.int (nI d1)]) (xR (some (.int (fX7_yearOfDay d1)))) 0 0 (fun _ => False) := by
  obtain ⟨G, hG⟩ : ∃ G, fX7_yearOfDay d1 = G := ⟨_, rfl⟩
  rw [hG]
  unfold fX7_yearOfDay at hG
  refine Met.ofW (cc := cX7_yearOfDay) (maxL := 1) (ret := (some .int)) (by decide) rfl ?_
  intro p e s m args below meth c s₁ B hml hv
  obtain ⟨rfl, I⟩ := hv
  have hx := B.exec
  have hb := B.bytes
  have hr := B.returns
  have hts := atoms_spec (ws := wsX7_yearOfDay) B.pre
  have hown : s.vm.findClass RX7 = some m.cls := findClass_of_methodNamed B.named
  have hlocks := B.notSynchronized
  have hl := lv_entry ([.int (nI d1)] : List Value) (n := 1) (Nat.le_of_ble_eq_true rfl)
  rw [lg_entry_eq]
  generalize (lg_sl ([.int (nI d1)] : List Value) ++ List.replicate (1 - (lg_sl ([.int (nI d1)] : List Value)).length) Slot.unset).toArray = ls at hl ⊢
  have hl : lv_has ls 1 [(0, .int (nI d1))] := hl
  refine lv_iload_n hx hb dX7_yearOfDay_0 rfl (lv_at hl 0 rfl) ?_
  refine lv_bipush (v := (nI 100)) hx hb dX7_yearOfDay_1 (by decide) ?_
  refine lv_idiv hx hb dX7_yearOfDay_3 (by decide) ?_
  refine xtop (y := .int (nI (d1 / 100))) (congrArg Value.int (pk_div (by omega) (by decide) (by decide))) ?_
  exact xriR hx hb hr hlocks dX7_yearOfDay_4 hG

def fX7_weightIn_S5 (τ : CT) (m1 : Nat) (y1 : Nat) (k5 : Nat) (a5_3 : Int64) : (Int64) := (if cK τ 10 (cK τ 11 k5) = m1 then (a5_3 + ((cI τ 21 (cK τ 11 k5)).toInt64 * (fX1_daysIn τ k5 y1).toInt64)) else a5_3)
def fX7_weightIn_L5 (τ : CT) (m1 : Nat) (y1 : Nat) : Nat → Nat → Int64 → Int64
  | 0, k5, a5_3 => (fX3_rated τ m1 a5_3 y1)
  | n5 + 1, k5, a5_3 => lseq (fX7_weightIn_S5 τ m1 y1 k5 a5_3) (fun q => fX7_weightIn_L5 τ m1 y1 n5 (k5 + 1) q)
def fX7_weightIn (τ : CT) (m1 : Nat) (y1 : Nat) : Int64 := (fX7_weightIn_L5 τ m1 y1 (cN τ 2) 0 (0 : Int64))
set_option maxHeartbeats 4000000 in
set_option maxRecDepth 100000 in
theorem mX7_weightIn (l : Launch) (lo : Nat) (D : va_G) (E : Nat → ClassId) (h : XW) (Pr : Nat → Prop) (τ : CT) (ad : Nat → Nat → Nat) (fa : Nat → Nat → Option Nat) (hR : RC E Pr τ ad fa h) (hW : CW τ) (m1 : Nat) (y1 : Nat) (h_m1 : m1 < cN τ 0) (hy : y1 < 20) : Met l yX7_weightIn wsX7_weightIn ({ frames := 2, cells := 0, slots := 0, locals := 49 } : Room) (xP lo D E h [.ref (ad 0 0), .ref (ad 10 m1), .int (nI y1)]) (xR (some (.long (fX7_weightIn τ m1 y1)))) 0 0 (fun _ => False) := by
  obtain ⟨G, hG⟩ : ∃ G, fX7_weightIn τ m1 y1 = G := ⟨_, rfl⟩
  rw [hG]
  unfold fX7_weightIn at hG
  refine Met.ofW (cc := cX7_weightIn) (maxL := 7) (ret := (some .long)) (by decide) rfl ?_
  intro p e s m args below meth c s₁ B hml hv
  obtain ⟨rfl, I⟩ := hv
  have hx := B.exec
  have hb := B.bytes
  have hr := B.returns
  have hts := atoms_spec (ws := wsX7_weightIn) B.pre
  have hown : s.vm.findClass RX7 = some m.cls := findClass_of_methodNamed B.named
  have hlocks := B.notSynchronized
  have hl := lv_entry ([.ref (ad 0 0), .ref (ad 10 m1), .int (nI y1)] : List Value) (n := 7) (Nat.le_of_ble_eq_true rfl)
  rw [lg_entry_eq]
  generalize (lg_sl ([.ref (ad 0 0), .ref (ad 10 m1), .int (nI y1)] : List Value) ++ List.replicate (7 - (lg_sl ([.ref (ad 0 0), .ref (ad 10 m1), .int (nI y1)] : List Value)).length) Slot.unset).toArray = ls at hl ⊢
  have hl : lv_has ls 7 [(0, .ref (ad 0 0)), (1, .ref (ad 10 m1)), (2, .int (nI y1))] := hl
  have hin7 : ∀ w ∈ u_ws RX7 TX7 14, w ∈ wsX7_weightIn := fun _ h => List.mem_cons_of_mem _ (List.mem_append_left _ (List.mem_append_left _ (List.mem_append_left _ (List.mem_append_right _ (h)))))
  have hin3 : ∀ w ∈ u_ws RX3 TX3 5, w ∈ wsX7_weightIn := fun _ h => List.mem_cons_of_mem _ (List.mem_append_right _ (h))
  have hin5 : ∀ w ∈ u_ws RX5 TX5 4, w ∈ wsX7_weightIn := fun _ h => List.mem_cons_of_mem _ (List.mem_append_left _ (List.mem_append_right _ (h)))
  have hin1 : ∀ w ∈ u_ws RX1 TX1 3, w ∈ wsX7_weightIn := fun _ h => List.mem_cons_of_mem _ (List.mem_append_left _ (List.mem_append_left _ (List.mem_append_right _ (h))))
  have hW0 := hW
  obtain ⟨w0, -⟩ := id hW
  refine lv_lconst (v := (0 : Int64)) hx hb dX7_weightIn_0 rfl ?_
  refine lv_lstore_n (lv' := [(3, .long (0 : Int64)), (0, .ref (ad 0 0)), (1, .ref (ad 10 m1)), (2, .int (nI y1))]) hx hb dX7_weightIn_1 rfl hl (by decide) rfl (fun ls hl => ?_)
  refine lv_iconst (v := (nI 0)) hx hb dX7_weightIn_2 (by decide) ?_
  refine lv_istore (lv' := [(5, .int (nI 0)), (3, .long (0 : Int64)), (0, .ref (ad 0 0)), (1, .ref (ad 10 m1)), (2, .int (nI y1))]) hx hb dX7_weightIn_3 hl (by decide) rfl (fun ls hl => ?_)
  have L5 : ∀ (n5 : Nat) (k5 : Nat) (a5_3 : Int64), k5 + n5 = cN τ 2 → fX7_weightIn_L5 τ m1 y1 n5 k5 a5_3 = G → ∀ ls : Array Slot, lv_has ls 7 [(0, .ref (ad 0 0)), (1, .ref (ad 10 m1)), (2, .int (nI y1)), (3, .long a5_3), (5, .int (nI k5))] → W p l e (headSpec wsX7_weightIn ({ frames := 2, cells := 0, slots := 0, locals := 49 } : Room)).room s m ([.ref (ad 0 0), .ref (ad 10 m1), .int (nI y1)] : List Value).toArray below meth c s.heap [] 0 0 (MQ below (xR (some (.long G))) ([.ref (ad 0 0), .ref (ad 10 m1), .int (nI y1)] : List Value).toArray s 0 0 (fun _ => False)) (F0 m 5 ls []) := by
    intro n5
    induction n5 with
    | zero =>
      intro k5 a5_3 hkn hG ls hl
      have hkN : k5 = cN τ 2 := by omega
      have hG : (fX3_rated τ m1 a5_3 y1) = G := hG
      refine lv_iload hx hb dX7_weightIn_5 (lv_at hl 4 rfl) ?_
      refine lv_aload_n hx hb dX7_weightIn_7 rfl (lv_at hl 0 rfl) ?_
      refine xget (C := RX7) (T := TX7) (N := 14) 9 hx hb hts hin7 hown I hR.f0 rfl (by decide) (List.mem_of_getElem? (i := 1) rfl) rfl rfl dX7_weightIn_8 ?_
      refine lv_icmp_ge (tgt := 61) hx hb dX7_weightIn_11 (by decide) (fun _ => ?_) (fun q => absurd (nI_le (Nat.le_of_eq hkN.symm) (by omega)) q)
      refine lv_aload_n hx hb dX7_weightIn_61 rfl (lv_at hl 1 rfl) ?_
      refine lv_lload_n hx hb dX7_weightIn_62 rfl (lv_at hl 3 rfl) ?_
      refine lv_iload_n hx hb dX7_weightIn_63 rfl (lv_at hl 2 rfl) ?_
      refine xcvR (As := [.long a5_3, .int (nI y1)]) (rest := []) (v := some (.long (fX3_rated τ m1 a5_3 y1))) ⟨hx, hb, hml, hown, hts⟩ (mX3_rated l lo D E h Pr τ ad fa hR hW m1 a5_3 y1 (show m1 < cN τ 0 by first | assumption | omega) (by first | assumption | omega)) (cwV 2 hts gX7_weightIn_X3_rated rfl rfl rfl (by decide +kernel) ⟨Nat.le_of_ble_eq_true rfl, Nat.le_of_ble_eq_true rfl⟩) I (hR.f10 (show m1 < cN τ 0 by first | assumption | omega)) rfl rfl hl.1 rfl (Nat.le_of_ble_eq_true rfl) dX7_weightIn_64 ⟨Nat.le_of_ble_eq_true rfl, Nat.le_of_ble_eq_true rfl⟩ ?_
      refine W.eq (g2 := F0 m 67 ls [.long (fX3_rated τ m1 a5_3 y1)]) rfl ?_
      exact xrlR hx hb hr hlocks dX7_weightIn_67 hG
    | succ n5 ih =>
      intro k5 a5_3 hkn hG ls hl
      have hk : k5 < cN τ 2 := by omega
      have hG : lseq ((if cK τ 10 (cK τ 11 k5) = m1 then (a5_3 + ((cI τ 21 (cK τ 11 k5)).toInt64 * (fX1_daysIn τ k5 y1).toInt64)) else a5_3)) (fun q => fX7_weightIn_L5 τ m1 y1 n5 (k5 + 1) q) = G := hG
      refine lv_iload hx hb dX7_weightIn_5 (lv_at hl 4 rfl) ?_
      refine lv_aload_n hx hb dX7_weightIn_7 rfl (lv_at hl 0 rfl) ?_
      refine xget (C := RX7) (T := TX7) (N := 14) 9 hx hb hts hin7 hown I hR.f0 rfl (by decide) (List.mem_of_getElem? (i := 1) rfl) rfl rfl dX7_weightIn_8 ?_
      refine lv_icmp_ge (tgt := 61) hx hb dX7_weightIn_11 (by decide) (fun q => absurd q (nI_ge hk (by omega))) (fun _ => ?_)
      refine lv_aload_n hx hb dX7_weightIn_14 rfl (lv_at hl 0 rfl) ?_
      refine xget (C := RX7) (T := TX7) (N := 14) 2 hx hb hts hin7 hown I hR.f0 rfl (by decide) (List.mem_of_getElem? (i := 2) rfl) rfl rfl dX7_weightIn_15 ?_
      refine lv_iload hx hb dX7_weightIn_18 (lv_at hl 4 rfl) ?_
      refine xaald (i := k5) (n := 60) 5 hx hb I rfl hR.f3 (by omega) (by decide) (hR.2.2.2.2.2.2.1 k5 (show k5 < cN τ 2 by first | assumption | omega)) dX7_weightIn_20 ?_
      refine W.eq (g2 := F0 m 21 ls [.ref (ad 15 k5)]) rfl ?_
      refine lv_astore (lv' := [(6, .ref (ad 15 k5)), (0, .ref (ad 0 0)), (1, .ref (ad 10 m1)), (2, .int (nI y1)), (3, .long a5_3), (5, .int (nI k5))]) hx hb dX7_weightIn_21 hl (by decide) rfl (fun ls hl => ?_)
      refine lv_aload hx hb dX7_weightIn_23 (lv_at hl 0 rfl) ?_
      refine xget (C := RX1) (T := TX1) (N := 3) 0 hx hb hts hin1 hown I (hR.f15 (show k5 < cN τ 2 by first | assumption | omega)) rfl (by decide) (List.mem_of_getElem? (i := 3) rfl) rfl rfl dX7_weightIn_25 ?_
      have b25_11 : cK τ 11 k5 < cN τ 1 := hW.2.2.1 k5 (show k5 < cN τ 2 by first | assumption | omega)
      refine xget (C := RX5) (T := TX5) (N := 4) 0 hx hb hts hin5 hown I (hR.f14 (show cK τ 11 k5 < cN τ 1 by first | assumption | omega)) rfl (by decide) (List.mem_of_getElem? (i := 4) rfl) rfl rfl dX7_weightIn_28 ?_
      have b28_10 : cK τ 10 (cK τ 11 k5) < cN τ 0 := hW.2.1 (cK τ 11 k5) (show cK τ 11 k5 < cN τ 1 by first | assumption | omega)
      refine lv_aload_n hx hb dX7_weightIn_31 rfl (lv_at hl 2 rfl) ?_
      refine xac_ne (tgt := 55) hx hb dX7_weightIn_32 (by decide) (hR.eqi (show cK τ 10 (cK τ 11 k5) < cN τ 0 by first | assumption | omega) (show m1 < cN τ 0 by first | assumption | omega)) (fun c_32 => ?_) (fun c_32 => ?_)
      · skip
        rw [if_neg c_32] at hG
        refine lv_iinc (v := (nI (k5 + 1))) (lv' := [(5, .int (nI (k5 + 1))), (6, .ref (ad 15 k5)), (0, .ref (ad 0 0)), (1, .ref (ad 10 m1)), (2, .int (nI y1)), (3, .long a5_3)]) hx hb dX7_weightIn_55 hl (k := 5) rfl (nI_succ k5).symm (by decide) rfl (fun ls hl => ?_)
        refine lv_goto (tgt := 5) hx hb dX7_weightIn_58 (by decide) ?_
        exact ih (k5 + 1) a5_3 (by first | omega | (simp only [cSI_N, cSL_N, cSM_N, cSD_N]; omega)) hG ls (lv_sub hl [2, 3, 4, 5, 0] rfl)
      · skip
        rw [if_pos c_32] at hG
        refine lv_lload_n hx hb dX7_weightIn_35 rfl (lv_at hl 4 rfl) ?_
        refine lv_aload hx hb dX7_weightIn_36 (lv_at hl 0 rfl) ?_
        refine xget (C := RX1) (T := TX1) (N := 3) 0 hx hb hts hin1 hown I (hR.f15 (show k5 < cN τ 2 by first | assumption | omega)) rfl (by decide) (List.mem_of_getElem? (i := 3) rfl) rfl rfl dX7_weightIn_38 ?_
        have b38_11 : cK τ 11 k5 < cN τ 1 := hW.2.2.1 k5 (show k5 < cN τ 2 by first | assumption | omega)
        refine xget (C := RX5) (T := TX5) (N := 4) 1 hx hb hts hin5 hown I (hR.f14 (show cK τ 11 k5 < cN τ 1 by first | assumption | omega)) rfl (by decide) (List.mem_of_getElem? (i := 5) rfl) rfl rfl dX7_weightIn_41 ?_
        refine lv_i2l (v := (cI τ 21 (cK τ 11 k5)).toInt64) hx hb dX7_weightIn_44 rfl ?_
        refine lv_aload hx hb dX7_weightIn_45 (lv_at hl 0 rfl) ?_
        refine lv_iload_n hx hb dX7_weightIn_47 rfl (lv_at hl 3 rfl) ?_
        refine xcvR (As := [.int (nI y1)]) (rest := [.long (cI τ 21 (cK τ 11 k5)).toInt64, .long a5_3]) (v := some (.int (fX1_daysIn τ k5 y1))) ⟨hx, hb, hml, hown, hts⟩ (mX1_daysIn l lo D E h Pr τ ad fa hR hW k5 y1 (show k5 < cN τ 2 by first | assumption | omega)) (cwV 1 hts gX7_weightIn_X1_daysIn rfl rfl rfl (by decide +kernel) ⟨Nat.le_of_ble_eq_true rfl, Nat.le_of_ble_eq_true rfl⟩) I (hR.f15 (show k5 < cN τ 2 by first | assumption | omega)) rfl rfl hl.1 rfl (Nat.le_of_ble_eq_true rfl) dX7_weightIn_48 ⟨Nat.le_of_ble_eq_true rfl, Nat.le_of_ble_eq_true rfl⟩ ?_
        refine W.eq (g2 := F0 m 51 ls [.int (fX1_daysIn τ k5 y1), .long (cI τ 21 (cK τ 11 k5)).toInt64, .long a5_3]) rfl ?_
        refine lv_i2l (v := (fX1_daysIn τ k5 y1).toInt64) hx hb dX7_weightIn_51 rfl ?_
        refine lv_lmul hx hb dX7_weightIn_52 ?_
        refine lv_ladd hx hb dX7_weightIn_53 ?_
        refine lv_lstore_n (lv' := [(3, .long (a5_3 + ((cI τ 21 (cK τ 11 k5)).toInt64 * (fX1_daysIn τ k5 y1).toInt64))), (6, .ref (ad 15 k5)), (0, .ref (ad 0 0)), (1, .ref (ad 10 m1)), (2, .int (nI y1)), (5, .int (nI k5))]) hx hb dX7_weightIn_54 rfl hl (by decide) rfl (fun ls hl => ?_)
        refine lv_iinc (v := (nI (k5 + 1))) (lv' := [(5, .int (nI (k5 + 1))), (3, .long (a5_3 + ((cI τ 21 (cK τ 11 k5)).toInt64 * (fX1_daysIn τ k5 y1).toInt64))), (6, .ref (ad 15 k5)), (0, .ref (ad 0 0)), (1, .ref (ad 10 m1)), (2, .int (nI y1))]) hx hb dX7_weightIn_55 hl (k := 5) rfl (nI_succ k5).symm (by decide) rfl (fun ls hl => ?_)
        refine lv_goto (tgt := 5) hx hb dX7_weightIn_58 (by decide) ?_
        exact ih (k5 + 1) (a5_3 + ((cI τ 21 (cK τ 11 k5)).toInt64 * (fX1_daysIn τ k5 y1).toInt64)) (by first | omega | (simp only [cSI_N, cSL_N, cSM_N, cSD_N]; omega)) hG ls (lv_sub hl [3, 4, 5, 1, 0] rfl)
  exact L5 (cN τ 2) 0 (0 : Int64) (by omega) hG ls (lv_sub hl [2, 3, 4, 1, 0] rfl)

def fX7_hasShipEntered_S2 (τ : CT) (m1 : Nat) (k2 : Nat) : (Unit ⊕ Int32) := (if cK τ 10 k2 = m1 then (if cK τ 14 k2 = 0 then (Sum.inl ()) else (Sum.inr (nI 1))) else (Sum.inl ()))
def fX7_hasShipEntered_L2 (τ : CT) (m1 : Nat) : Nat → Nat → Int32
  | 0, k2 => (nI 0)
  | n2 + 1, k2 => lbind (fX7_hasShipEntered_S2 τ m1 k2) (fun q => fX7_hasShipEntered_L2 τ m1 n2 (k2 + 1))
def fX7_hasShipEntered (τ : CT) (m1 : Nat) : Int32 := (fX7_hasShipEntered_L2 τ m1 (cN τ 1) 0)
set_option maxHeartbeats 4000000 in
set_option maxRecDepth 100000 in
theorem mX7_hasShipEntered (l : Launch) (lo : Nat) (D : va_G) (E : Nat → ClassId) (h : XW) (Pr : Nat → Prop) (τ : CT) (ad : Nat → Nat → Nat) (fa : Nat → Nat → Option Nat) (hR : RC E Pr τ ad fa h) (hW : CW τ) (m1 : Nat) (h_m1 : m1 < cN τ 0) : Met l yX7_hasShipEntered wsX7_hasShipEntered ({ frames := 0, cells := 0, slots := 0, locals := 0 } : Room) (xP lo D E h [.ref (ad 0 0), .ref (ad 10 m1)]) (xR (some (.int (fX7_hasShipEntered τ m1)))) 0 0 (fun _ => False) := by
  obtain ⟨G, hG⟩ : ∃ G, fX7_hasShipEntered τ m1 = G := ⟨_, rfl⟩
  rw [hG]
  unfold fX7_hasShipEntered at hG
  refine Met.ofW (cc := cX7_hasShipEntered) (maxL := 3) (ret := (some .boolean)) (by decide) rfl ?_
  intro p e s m args below meth c s₁ B hml hv
  obtain ⟨rfl, I⟩ := hv
  have hx := B.exec
  have hb := B.bytes
  have hr := B.returns
  have hts := atoms_spec (ws := wsX7_hasShipEntered) B.pre
  have hown : s.vm.findClass RX7 = some m.cls := findClass_of_methodNamed B.named
  have hlocks := B.notSynchronized
  have hl := lv_entry ([.ref (ad 0 0), .ref (ad 10 m1)] : List Value) (n := 3) (Nat.le_of_ble_eq_true rfl)
  rw [lg_entry_eq]
  generalize (lg_sl ([.ref (ad 0 0), .ref (ad 10 m1)] : List Value) ++ List.replicate (3 - (lg_sl ([.ref (ad 0 0), .ref (ad 10 m1)] : List Value)).length) Slot.unset).toArray = ls at hl ⊢
  have hl : lv_has ls 3 [(0, .ref (ad 0 0)), (1, .ref (ad 10 m1))] := hl
  have hin7 : ∀ w ∈ u_ws RX7 TX7 14, w ∈ wsX7_hasShipEntered := fun _ h => List.mem_cons_of_mem _ (List.mem_append_left _ (List.mem_append_right _ (h)))
  have hin5 : ∀ w ∈ u_ws RX5 TX5 4, w ∈ wsX7_hasShipEntered := fun _ h => List.mem_cons_of_mem _ (List.mem_append_right _ (h))
  have hW0 := hW
  obtain ⟨w0, -⟩ := id hW
  refine lv_iconst (v := (nI 0)) hx hb dX7_hasShipEntered_0 (by decide) ?_
  refine lv_istore_n (lv' := [(2, .int (nI 0)), (0, .ref (ad 0 0)), (1, .ref (ad 10 m1))]) hx hb dX7_hasShipEntered_1 rfl hl (by decide) rfl (fun ls hl => ?_)
  have L2 : ∀ (n2 : Nat) (k2 : Nat), k2 + n2 = cN τ 1 → fX7_hasShipEntered_L2 τ m1 n2 k2 = G → ∀ ls : Array Slot, lv_has ls 3 [(0, .ref (ad 0 0)), (1, .ref (ad 10 m1)), (2, .int (nI k2))] → W p l e (headSpec wsX7_hasShipEntered ({ frames := 0, cells := 0, slots := 0, locals := 0 } : Room)).room s m ([.ref (ad 0 0), .ref (ad 10 m1)] : List Value).toArray below meth c s.heap [] 0 0 (MQ below (xR (some (.int G))) ([.ref (ad 0 0), .ref (ad 10 m1)] : List Value).toArray s 0 0 (fun _ => False)) (F0 m 2 ls []) := by
    intro n2
    induction n2 with
    | zero =>
      intro k2 hkn hG ls hl
      have hkN : k2 = cN τ 1 := by omega
      have hG : (nI 0) = G := hG
      refine lv_iload_n hx hb dX7_hasShipEntered_2 rfl (lv_at hl 2 rfl) ?_
      refine lv_aload_n hx hb dX7_hasShipEntered_3 rfl (lv_at hl 0 rfl) ?_
      refine xget (C := RX7) (T := TX7) (N := 14) 8 hx hb hts hin7 hown I hR.f0 rfl (by decide) (List.mem_of_getElem? (i := 1) rfl) rfl rfl dX7_hasShipEntered_4 ?_
      refine lv_icmp_ge (tgt := 43) hx hb dX7_hasShipEntered_7 (by decide) (fun _ => ?_) (fun q => absurd (nI_le (Nat.le_of_eq hkN.symm) (by omega)) q)
      refine lv_iconst (v := (nI 0)) hx hb dX7_hasShipEntered_43 (by decide) ?_
      exact xrzR hx hb hr hlocks dX7_hasShipEntered_44 hG (by have hG2 : (nI 0) = G := hG; rw [← hG2]; exact xnb (Or.inl rfl))
    | succ n2 ih =>
      intro k2 hkn hG ls hl
      have hk : k2 < cN τ 1 := by omega
      have hG : lbind ((if cK τ 10 k2 = m1 then (if cK τ 14 k2 = 0 then (Sum.inl ()) else (Sum.inr (nI 1))) else (Sum.inl ()))) (fun q => fX7_hasShipEntered_L2 τ m1 n2 (k2 + 1)) = G := hG
      refine lv_iload_n hx hb dX7_hasShipEntered_2 rfl (lv_at hl 2 rfl) ?_
      refine lv_aload_n hx hb dX7_hasShipEntered_3 rfl (lv_at hl 0 rfl) ?_
      refine xget (C := RX7) (T := TX7) (N := 14) 8 hx hb hts hin7 hown I hR.f0 rfl (by decide) (List.mem_of_getElem? (i := 1) rfl) rfl rfl dX7_hasShipEntered_4 ?_
      refine lv_icmp_ge (tgt := 43) hx hb dX7_hasShipEntered_7 (by decide) (fun q => absurd q (nI_ge hk (by omega))) (fun _ => ?_)
      refine lv_aload_n hx hb dX7_hasShipEntered_10 rfl (lv_at hl 0 rfl) ?_
      refine xget (C := RX7) (T := TX7) (N := 14) 1 hx hb hts hin7 hown I hR.f0 rfl (by decide) (List.mem_of_getElem? (i := 2) rfl) rfl rfl dX7_hasShipEntered_11 ?_
      refine lv_iload_n hx hb dX7_hasShipEntered_14 rfl (lv_at hl 2 rfl) ?_
      refine xaald (i := k2) (n := 24) 4 hx hb I rfl hR.f2 (by omega) (by decide) (hR.2.2.2.2.2.1 k2 (show k2 < cN τ 1 by first | assumption | omega)) dX7_hasShipEntered_15 ?_
      refine W.eq (g2 := F0 m 16 ls [.ref (ad 14 k2)]) rfl ?_
      refine xget (C := RX5) (T := TX5) (N := 4) 0 hx hb hts hin5 hown I (hR.f14 (show k2 < cN τ 1 by first | assumption | omega)) rfl (by decide) (List.mem_of_getElem? (i := 3) rfl) rfl rfl dX7_hasShipEntered_16 ?_
      have b16_10 : cK τ 10 k2 < cN τ 0 := hW.2.1 k2 (show k2 < cN τ 1 by first | assumption | omega)
      refine lv_aload_n hx hb dX7_hasShipEntered_19 rfl (lv_at hl 1 rfl) ?_
      refine xac_ne (tgt := 37) hx hb dX7_hasShipEntered_20 (by decide) (hR.eqi (show cK τ 10 k2 < cN τ 0 by first | assumption | omega) (show m1 < cN τ 0 by first | assumption | omega)) (fun c_20 => ?_) (fun c_20 => ?_)
      · skip
        rw [if_neg c_20] at hG
        refine lv_iinc (v := (nI (k2 + 1))) (lv' := [(2, .int (nI (k2 + 1))), (0, .ref (ad 0 0)), (1, .ref (ad 10 m1))]) hx hb dX7_hasShipEntered_37 hl (k := 2) rfl (nI_succ k2).symm (by decide) rfl (fun ls hl => ?_)
        refine lv_goto (tgt := 2) hx hb dX7_hasShipEntered_40 (by decide) ?_
        exact ih (k2 + 1) (by first | omega | (simp only [cSI_N, cSL_N, cSM_N, cSD_N]; omega)) hG ls (lv_sub hl [1, 2, 0] rfl)
      · skip
        rw [if_pos c_20] at hG
        refine lv_aload_n hx hb dX7_hasShipEntered_23 rfl (lv_at hl 0 rfl) ?_
        refine xget (C := RX7) (T := TX7) (N := 14) 1 hx hb hts hin7 hown I hR.f0 rfl (by decide) (List.mem_of_getElem? (i := 2) rfl) rfl rfl dX7_hasShipEntered_24 ?_
        refine lv_iload_n hx hb dX7_hasShipEntered_27 rfl (lv_at hl 2 rfl) ?_
        refine xaald (i := k2) (n := 24) 4 hx hb I rfl hR.f2 (by omega) (by decide) (hR.2.2.2.2.2.1 k2 (show k2 < cN τ 1 by first | assumption | omega)) dX7_hasShipEntered_28 ?_
        refine W.eq (g2 := F0 m 29 ls [.ref (ad 14 k2)]) rfl ?_
        refine xget (C := RX5) (T := TX5) (N := 4) 2 hx hb hts hin5 hown I (hR.f14 (show k2 < cN τ 1 by first | assumption | omega)) rfl (by decide) (List.mem_of_getElem? (i := 4) rfl) rfl rfl dX7_hasShipEntered_29 ?_
        have b29_14 : cK τ 14 k2 ≤ cN τ 2 := hW.2.2.2.2.2.1 k2 (show k2 < cN τ 1 by first | assumption | omega)
        by_cases o_32 : cK τ 14 k2 = 0
        · skip
          rw [if_pos o_32] at hG
          refine xtop (y := .null) (by rw [if_pos o_32]; rfl) ?_
          refine lv_ifnullN (tgt := 37) hx hb dX7_hasShipEntered_32 (by decide) ?_
          refine lv_iinc (v := (nI (k2 + 1))) (lv' := [(2, .int (nI (k2 + 1))), (0, .ref (ad 0 0)), (1, .ref (ad 10 m1))]) hx hb dX7_hasShipEntered_37 hl (k := 2) rfl (nI_succ k2).symm (by decide) rfl (fun ls hl => ?_)
          refine lv_goto (tgt := 2) hx hb dX7_hasShipEntered_40 (by decide) ?_
          exact ih (k2 + 1) (by first | omega | (simp only [cSI_N, cSL_N, cSM_N, cSD_N]; omega)) hG ls (lv_sub hl [1, 2, 0] rfl)
        · skip
          rw [if_neg o_32] at hG
          refine xtop (y := .ref (ad 15 (cK τ 14 k2 - 1))) (by rw [if_neg o_32]; rfl) ?_
          refine lv_ifnull hx hb dX7_hasShipEntered_32 ?_
          refine lv_iconst (v := (nI 1)) hx hb dX7_hasShipEntered_35 (by decide) ?_
          exact xrzR hx hb hr hlocks dX7_hasShipEntered_36 hG (by have hG2 : (nI 1) = G := hG; rw [← hG2]; exact xnb (Or.inr rfl))
  exact L2 (cN τ 1) 0 (by omega) hG ls (lv_sub hl [1, 2, 0] rfl)

def fX7_wasEntered_S2 (τ : CT) (s1 : Nat) (d1 : Int32) (k2 : Nat) : (Unit ⊕ Int32) := (if cK τ 11 k2 = s1 then (if (fX1_isOn τ k2 d1) = 0 then (Sum.inl ()) else (Sum.inr (nI 1))) else (Sum.inl ()))
def fX7_wasEntered_L2 (τ : CT) (s1 : Nat) (d1 : Int32) : Nat → Nat → Int32
  | 0, k2 => (nI 0)
  | n2 + 1, k2 => lbind (fX7_wasEntered_S2 τ s1 d1 k2) (fun q => fX7_wasEntered_L2 τ s1 d1 n2 (k2 + 1))
def fX7_wasEntered (τ : CT) (s1 : Nat) (d1 : Int32) : Int32 := (fX7_wasEntered_L2 τ s1 d1 (cN τ 2) 0)
set_option maxHeartbeats 4000000 in
set_option maxRecDepth 100000 in
theorem mX7_wasEntered (l : Launch) (lo : Nat) (D : va_G) (E : Nat → ClassId) (h : XW) (Pr : Nat → Prop) (τ : CT) (ad : Nat → Nat → Nat) (fa : Nat → Nat → Option Nat) (hR : RC E Pr τ ad fa h) (hW : CW τ) (s1 : Nat) (d1 : Int32) (h_s1 : s1 < cN τ 1) : Met l yX7_wasEntered wsX7_wasEntered ({ frames := 1, cells := 0, slots := 0, locals := 21 } : Room) (xP lo D E h [.ref (ad 0 0), .ref (ad 14 s1), .int d1]) (xR (some (.int (fX7_wasEntered τ s1 d1)))) 0 0 (fun _ => False) := by
  obtain ⟨G, hG⟩ : ∃ G, fX7_wasEntered τ s1 d1 = G := ⟨_, rfl⟩
  rw [hG]
  unfold fX7_wasEntered at hG
  refine Met.ofW (cc := cX7_wasEntered) (maxL := 4) (ret := (some .boolean)) (by decide) rfl ?_
  intro p e s m args below meth c s₁ B hml hv
  obtain ⟨rfl, I⟩ := hv
  have hx := B.exec
  have hb := B.bytes
  have hr := B.returns
  have hts := atoms_spec (ws := wsX7_wasEntered) B.pre
  have hown : s.vm.findClass RX7 = some m.cls := findClass_of_methodNamed B.named
  have hlocks := B.notSynchronized
  have hl := lv_entry ([.ref (ad 0 0), .ref (ad 14 s1), .int d1] : List Value) (n := 4) (Nat.le_of_ble_eq_true rfl)
  rw [lg_entry_eq]
  generalize (lg_sl ([.ref (ad 0 0), .ref (ad 14 s1), .int d1] : List Value) ++ List.replicate (4 - (lg_sl ([.ref (ad 0 0), .ref (ad 14 s1), .int d1] : List Value)).length) Slot.unset).toArray = ls at hl ⊢
  have hl : lv_has ls 4 [(0, .ref (ad 0 0)), (1, .ref (ad 14 s1)), (2, .int d1)] := hl
  have hin7 : ∀ w ∈ u_ws RX7 TX7 14, w ∈ wsX7_wasEntered := fun _ h => List.mem_cons_of_mem _ (List.mem_append_left _ (List.mem_append_right _ (h)))
  have hin1 : ∀ w ∈ u_ws RX1 TX1 3, w ∈ wsX7_wasEntered := fun _ h => List.mem_cons_of_mem _ (List.mem_append_right _ (h))
  have hW0 := hW
  obtain ⟨w0, -⟩ := id hW
  refine lv_iconst (v := (nI 0)) hx hb dX7_wasEntered_0 (by decide) ?_
  refine lv_istore_n (lv' := [(3, .int (nI 0)), (0, .ref (ad 0 0)), (1, .ref (ad 14 s1)), (2, .int d1)]) hx hb dX7_wasEntered_1 rfl hl (by decide) rfl (fun ls hl => ?_)
  have L2 : ∀ (n2 : Nat) (k2 : Nat), k2 + n2 = cN τ 2 → fX7_wasEntered_L2 τ s1 d1 n2 k2 = G → ∀ ls : Array Slot, lv_has ls 4 [(0, .ref (ad 0 0)), (1, .ref (ad 14 s1)), (2, .int d1), (3, .int (nI k2))] → W p l e (headSpec wsX7_wasEntered ({ frames := 1, cells := 0, slots := 0, locals := 21 } : Room)).room s m ([.ref (ad 0 0), .ref (ad 14 s1), .int d1] : List Value).toArray below meth c s.heap [] 0 0 (MQ below (xR (some (.int G))) ([.ref (ad 0 0), .ref (ad 14 s1), .int d1] : List Value).toArray s 0 0 (fun _ => False)) (F0 m 2 ls []) := by
    intro n2
    induction n2 with
    | zero =>
      intro k2 hkn hG ls hl
      have hkN : k2 = cN τ 2 := by omega
      have hG : (nI 0) = G := hG
      refine lv_iload_n hx hb dX7_wasEntered_2 rfl (lv_at hl 3 rfl) ?_
      refine lv_aload_n hx hb dX7_wasEntered_3 rfl (lv_at hl 0 rfl) ?_
      refine xget (C := RX7) (T := TX7) (N := 14) 9 hx hb hts hin7 hown I hR.f0 rfl (by decide) (List.mem_of_getElem? (i := 1) rfl) rfl rfl dX7_wasEntered_4 ?_
      refine lv_icmp_ge (tgt := 44) hx hb dX7_wasEntered_7 (by decide) (fun _ => ?_) (fun q => absurd (nI_le (Nat.le_of_eq hkN.symm) (by omega)) q)
      refine lv_iconst (v := (nI 0)) hx hb dX7_wasEntered_44 (by decide) ?_
      exact xrzR hx hb hr hlocks dX7_wasEntered_45 hG (by have hG2 : (nI 0) = G := hG; rw [← hG2]; exact xnb (Or.inl rfl))
    | succ n2 ih =>
      intro k2 hkn hG ls hl
      have hk : k2 < cN τ 2 := by omega
      have hG : lbind ((if cK τ 11 k2 = s1 then (if (fX1_isOn τ k2 d1) = 0 then (Sum.inl ()) else (Sum.inr (nI 1))) else (Sum.inl ()))) (fun q => fX7_wasEntered_L2 τ s1 d1 n2 (k2 + 1)) = G := hG
      refine lv_iload_n hx hb dX7_wasEntered_2 rfl (lv_at hl 3 rfl) ?_
      refine lv_aload_n hx hb dX7_wasEntered_3 rfl (lv_at hl 0 rfl) ?_
      refine xget (C := RX7) (T := TX7) (N := 14) 9 hx hb hts hin7 hown I hR.f0 rfl (by decide) (List.mem_of_getElem? (i := 1) rfl) rfl rfl dX7_wasEntered_4 ?_
      refine lv_icmp_ge (tgt := 44) hx hb dX7_wasEntered_7 (by decide) (fun q => absurd q (nI_ge hk (by omega))) (fun _ => ?_)
      refine lv_aload_n hx hb dX7_wasEntered_10 rfl (lv_at hl 0 rfl) ?_
      refine xget (C := RX7) (T := TX7) (N := 14) 2 hx hb hts hin7 hown I hR.f0 rfl (by decide) (List.mem_of_getElem? (i := 2) rfl) rfl rfl dX7_wasEntered_11 ?_
      refine lv_iload_n hx hb dX7_wasEntered_14 rfl (lv_at hl 3 rfl) ?_
      refine xaald (i := k2) (n := 60) 5 hx hb I rfl hR.f3 (by omega) (by decide) (hR.2.2.2.2.2.2.1 k2 (show k2 < cN τ 2 by first | assumption | omega)) dX7_wasEntered_15 ?_
      refine W.eq (g2 := F0 m 16 ls [.ref (ad 15 k2)]) rfl ?_
      refine xget (C := RX1) (T := TX1) (N := 3) 0 hx hb hts hin1 hown I (hR.f15 (show k2 < cN τ 2 by first | assumption | omega)) rfl (by decide) (List.mem_of_getElem? (i := 3) rfl) rfl rfl dX7_wasEntered_16 ?_
      have b16_11 : cK τ 11 k2 < cN τ 1 := hW.2.2.1 k2 (show k2 < cN τ 2 by first | assumption | omega)
      refine lv_aload_n hx hb dX7_wasEntered_19 rfl (lv_at hl 1 rfl) ?_
      refine xac_ne (tgt := 38) hx hb dX7_wasEntered_20 (by decide) (hR.eqi (show cK τ 11 k2 < cN τ 1 by first | assumption | omega) (show s1 < cN τ 1 by first | assumption | omega)) (fun c_20 => ?_) (fun c_20 => ?_)
      · skip
        rw [if_neg c_20] at hG
        refine lv_iinc (v := (nI (k2 + 1))) (lv' := [(3, .int (nI (k2 + 1))), (0, .ref (ad 0 0)), (1, .ref (ad 14 s1)), (2, .int d1)]) hx hb dX7_wasEntered_38 hl (k := 3) rfl (nI_succ k2).symm (by decide) rfl (fun ls hl => ?_)
        refine lv_goto (tgt := 2) hx hb dX7_wasEntered_41 (by decide) ?_
        exact ih (k2 + 1) (by first | omega | (simp only [cSI_N, cSL_N, cSM_N, cSD_N]; omega)) hG ls (lv_sub hl [1, 2, 3, 0] rfl)
      · skip
        rw [if_pos c_20] at hG
        refine lv_aload_n hx hb dX7_wasEntered_23 rfl (lv_at hl 0 rfl) ?_
        refine xget (C := RX7) (T := TX7) (N := 14) 2 hx hb hts hin7 hown I hR.f0 rfl (by decide) (List.mem_of_getElem? (i := 2) rfl) rfl rfl dX7_wasEntered_24 ?_
        refine lv_iload_n hx hb dX7_wasEntered_27 rfl (lv_at hl 3 rfl) ?_
        refine xaald (i := k2) (n := 60) 5 hx hb I rfl hR.f3 (by omega) (by decide) (hR.2.2.2.2.2.2.1 k2 (show k2 < cN τ 2 by first | assumption | omega)) dX7_wasEntered_28 ?_
        refine W.eq (g2 := F0 m 29 ls [.ref (ad 15 k2)]) rfl ?_
        refine lv_iload_n hx hb dX7_wasEntered_29 rfl (lv_at hl 2 rfl) ?_
        refine xcvR (As := [.int d1]) (rest := []) (v := some (.int (fX1_isOn τ k2 d1))) ⟨hx, hb, hml, hown, hts⟩ (mX1_isOn l lo D E h Pr τ ad fa hR hW k2 d1 (show k2 < cN τ 2 by first | assumption | omega)) (cwV 1 hts gX7_wasEntered_X1_isOn rfl rfl rfl (by decide +kernel) ⟨Nat.le_of_ble_eq_true rfl, Nat.le_of_ble_eq_true rfl⟩) I (hR.f15 (show k2 < cN τ 2 by first | assumption | omega)) rfl rfl hl.1 rfl (Nat.le_of_ble_eq_true rfl) dX7_wasEntered_30 ⟨Nat.le_of_ble_eq_true rfl, Nat.le_of_ble_eq_true rfl⟩ ?_
        refine W.eq (g2 := F0 m 33 ls [.int (fX1_isOn τ k2 d1)]) rfl ?_
        refine lv_if_eq (tgt := 38) hx hb dX7_wasEntered_33 (by decide) (fun c_33 => ?_) (fun c_33 => ?_)
        · skip
          rw [if_pos c_33] at hG
          refine lv_iinc (v := (nI (k2 + 1))) (lv' := [(3, .int (nI (k2 + 1))), (0, .ref (ad 0 0)), (1, .ref (ad 14 s1)), (2, .int d1)]) hx hb dX7_wasEntered_38 hl (k := 3) rfl (nI_succ k2).symm (by decide) rfl (fun ls hl => ?_)
          refine lv_goto (tgt := 2) hx hb dX7_wasEntered_41 (by decide) ?_
          exact ih (k2 + 1) (by first | omega | (simp only [cSI_N, cSL_N, cSM_N, cSD_N]; omega)) hG ls (lv_sub hl [1, 2, 3, 0] rfl)
        · skip
          rw [if_neg c_33] at hG
          refine lv_iconst (v := (nI 1)) hx hb dX7_wasEntered_36 (by decide) ?_
          exact xrzR hx hb hr hlocks dX7_wasEntered_37 hG (by have hG2 : (nI 1) = G := hG; rw [← hG2]; exact xnb (Or.inr rfl))
  exact L2 (cN τ 2) 0 (by omega) hG ls (lv_sub hl [1, 2, 3, 0] rfl)

def fX7_isCovered (τ : CT) (c1 : Nat) : Int32 := (if (cI τ 33 ((cK τ 16 (cK τ 13 c1)) / 100)) = 0 then (if (fX3_isStoppedOn τ (cK τ 10 (cK τ 12 c1)) (nI (cK τ 16 (cK τ 13 c1)))) = 0 then (if (fX7_wasEntered τ (cK τ 12 c1) (nI (cK τ 16 (cK τ 13 c1)))) = 0 then (nI 0) else (nI 1)) else (nI 0)) else (cI τ 28 c1))
set_option maxHeartbeats 4000000 in
set_option maxRecDepth 100000 in
theorem mX7_isCovered (l : Launch) (lo : Nat) (D : va_G) (E : Nat → ClassId) (h : XW) (Pr : Nat → Prop) (τ : CT) (ad : Nat → Nat → Nat) (fa : Nat → Nat → Option Nat) (hR : RC E Pr τ ad fa h) (hW : CW τ) (c1 : Nat) (h_c1 : c1 < cN τ 3) : Met l yX7_isCovered wsX7_isCovered ({ frames := 2, cells := 0, slots := 0, locals := 44 } : Room) (xP lo D E h [.ref (ad 0 0), .ref (ad 16 c1)]) (xR (some (.int (fX7_isCovered τ c1)))) 0 0 (fun _ => False) := by
  obtain ⟨G, hG⟩ : ∃ G, fX7_isCovered τ c1 = G := ⟨_, rfl⟩
  rw [hG]
  unfold fX7_isCovered at hG
  refine Met.ofW (cc := cX7_isCovered) (maxL := 3) (ret := (some .boolean)) (by decide) rfl ?_
  intro p e s m args below meth c s₁ B hml hv
  obtain ⟨rfl, I⟩ := hv
  have hx := B.exec
  have hb := B.bytes
  have hr := B.returns
  have hts := atoms_spec (ws := wsX7_isCovered) B.pre
  have hown : s.vm.findClass RX7 = some m.cls := findClass_of_methodNamed B.named
  have hlocks := B.notSynchronized
  have hl := lv_entry ([.ref (ad 0 0), .ref (ad 16 c1)] : List Value) (n := 3) (Nat.le_of_ble_eq_true rfl)
  rw [lg_entry_eq]
  generalize (lg_sl ([.ref (ad 0 0), .ref (ad 16 c1)] : List Value) ++ List.replicate (3 - (lg_sl ([.ref (ad 0 0), .ref (ad 16 c1)] : List Value)).length) Slot.unset).toArray = ls at hl ⊢
  have hl : lv_has ls 3 [(0, .ref (ad 0 0)), (1, .ref (ad 16 c1))] := hl
  have hin7 : ∀ w ∈ u_ws RX7 TX7 14, w ∈ wsX7_isCovered := fun _ h => List.mem_cons_of_mem _ (List.mem_append_left _ (List.mem_append_left _ (List.mem_append_left _ (List.mem_append_left _ (List.mem_append_right _ (h))))))
  have hin3 : ∀ w ∈ u_ws RX3 TX3 5, w ∈ wsX7_isCovered := fun _ h => List.mem_cons_of_mem _ (List.mem_append_left _ (List.mem_append_right _ (h)))
  have hin5 : ∀ w ∈ u_ws RX5 TX5 4, w ∈ wsX7_isCovered := fun _ h => List.mem_cons_of_mem _ (List.mem_append_left _ (List.mem_append_left _ (List.mem_append_right _ (h))))
  have hin1 : ∀ w ∈ u_ws RX1 TX1 3, w ∈ wsX7_isCovered := fun _ h => List.mem_cons_of_mem _ (List.mem_append_right _ (h))
  have hin0 : ∀ w ∈ u_ws RX0 TX0 8, w ∈ wsX7_isCovered := fun _ h => List.mem_cons_of_mem _ (List.mem_append_left _ (List.mem_append_left _ (List.mem_append_left _ (List.mem_append_left _ (List.mem_append_left _ (List.mem_append_left _ (List.mem_append_right _ (h))))))))
  have hin2 : ∀ w ∈ u_ws RX2 TX2 3, w ∈ wsX7_isCovered := fun _ h => List.mem_cons_of_mem _ (List.mem_append_left _ (List.mem_append_left _ (List.mem_append_left _ (List.mem_append_left _ (List.mem_append_left _ (List.mem_append_right _ (h)))))))
  have hin6 : ∀ w ∈ u_ws RX6 TX6 7, w ∈ wsX7_isCovered := fun _ h => List.mem_cons_of_mem _ (List.mem_append_left _ (List.mem_append_left _ (List.mem_append_left _ (List.mem_append_right _ (h)))))
  have hW0 := hW
  obtain ⟨w0, -⟩ := id hW
  refine lv_aload_n hx hb dX7_isCovered_0 rfl (lv_at hl 1 rfl) ?_
  refine xget (C := RX0) (T := TX0) (N := 8) 2 hx hb hts hin0 hown I (hR.f16 (show c1 < cN τ 3 by first | assumption | omega)) rfl (by decide) (List.mem_of_getElem? (i := 1) rfl) rfl rfl dX7_isCovered_1 ?_
  have b1_13 : cK τ 13 c1 < cN τ 4 := hW.2.2.2.2.1 c1 (show c1 < cN τ 3 by first | assumption | omega)
  refine xget (C := RX2) (T := TX2) (N := 3) 1 hx hb hts hin2 hown I (hR.f17 (show cK τ 13 c1 < cN τ 4 by first | assumption | omega)) rfl (by decide) (List.mem_of_getElem? (i := 2) rfl) rfl rfl dX7_isCovered_4 ?_
  have b4_16 : cK τ 16 (cK τ 13 c1) < 2000 := hW.2.2.2.2.2.2.2.1 (cK τ 13 c1) (show cK τ 13 c1 < cN τ 4 by first | assumption | omega)
  refine lv_istore_n (lv' := [(2, .int (nI (cK τ 16 (cK τ 13 c1)))), (0, .ref (ad 0 0)), (1, .ref (ad 16 c1))]) hx hb dX7_isCovered_7 rfl hl (by decide) rfl (fun ls hl => ?_)
  refine lv_aload_n hx hb dX7_isCovered_8 rfl (lv_at hl 1 rfl) ?_
  refine xget (C := RX7) (T := TX7) (N := 14) 5 hx hb hts hin7 hown I hR.f0 rfl (by decide) (List.mem_of_getElem? (i := 3) rfl) rfl rfl dX7_isCovered_9 ?_
  refine lv_iload_n hx hb dX7_isCovered_12 rfl (lv_at hl 0 rfl) ?_
  refine xcsR (As := [.int (nI (cK τ 16 (cK τ 13 c1)))]) (rest := [.ref (ad 6 0)]) (v := some (.int (nI ((cK τ 16 (cK τ 13 c1)) / 100)))) ⟨hx, hb, hml, hown, hts⟩ (mX7_yearOfDay l lo D E h (cK τ 16 (cK τ 13 c1)) (by first | assumption | omega)) (va_cwS 1 hts gX7_isCovered_X7_yearOfDay rfl rfl rfl (by decide +kernel) ⟨Nat.le_of_ble_eq_true rfl, Nat.le_of_ble_eq_true rfl⟩) I rfl hl.1 rfl (Nat.le_of_ble_eq_true rfl) dX7_isCovered_13 ⟨Nat.le_of_ble_eq_true rfl, Nat.le_of_ble_eq_true rfl⟩ ?_
  refine W.eq (g2 := F0 m 16 ls [.int (nI ((cK τ 16 (cK τ 13 c1)) / 100)), .ref (ad 6 0)]) rfl ?_
  refine xaald (i := ((cK τ 16 (cK τ 13 c1)) / 100)) (n := 20) 8 hx hb I rfl hR.f6 (by omega) (by decide) (hR.2.2.2.2.2.2.2.2.2 ((cK τ 16 (cK τ 13 c1)) / 100) (show (cK τ 16 (cK τ 13 c1)) / 100 < 20 by first | assumption | omega)) dX7_isCovered_16 ?_
  refine W.eq (g2 := F0 m 17 ls [.ref (ad 18 ((cK τ 16 (cK τ 13 c1)) / 100))]) rfl ?_
  refine xget (C := RX6) (T := TX6) (N := 7) 2 hx hb hts hin6 hown I (hR.f18 (show (cK τ 16 (cK τ 13 c1)) / 100 < 20 by first | assumption | omega)) rfl (by decide) (List.mem_of_getElem? (i := 4) rfl) rfl rfl dX7_isCovered_17 ?_
  refine lv_if_eq (tgt := 28) hx hb dX7_isCovered_20 (by decide) (fun c_20 => ?_) (fun c_20 => ?_)
  · skip
    rw [if_pos c_20] at hG
    refine lv_aload_n hx hb dX7_isCovered_28 rfl (lv_at hl 2 rfl) ?_
    refine xget (C := RX0) (T := TX0) (N := 8) 0 hx hb hts hin0 hown I (hR.f16 (show c1 < cN τ 3 by first | assumption | omega)) rfl (by decide) (List.mem_of_getElem? (i := 6) rfl) rfl rfl dX7_isCovered_29 ?_
    have b29_12 : cK τ 12 c1 < cN τ 1 := hW.2.2.2.1 c1 (show c1 < cN τ 3 by first | assumption | omega)
    refine xget (C := RX5) (T := TX5) (N := 4) 0 hx hb hts hin5 hown I (hR.f14 (show cK τ 12 c1 < cN τ 1 by first | assumption | omega)) rfl (by decide) (List.mem_of_getElem? (i := 7) rfl) rfl rfl dX7_isCovered_32 ?_
    have b32_10 : cK τ 10 (cK τ 12 c1) < cN τ 0 := hW.2.1 (cK τ 12 c1) (show cK τ 12 c1 < cN τ 1 by first | assumption | omega)
    refine lv_iload_n hx hb dX7_isCovered_35 rfl (lv_at hl 0 rfl) ?_
    refine xcvR (As := [.int (nI (cK τ 16 (cK τ 13 c1)))]) (rest := []) (v := some (.int (fX3_isStoppedOn τ (cK τ 10 (cK τ 12 c1)) (nI (cK τ 16 (cK τ 13 c1)))))) ⟨hx, hb, hml, hown, hts⟩ (mX3_isStoppedOn l lo D E h Pr τ ad fa hR hW (cK τ 10 (cK τ 12 c1)) (nI (cK τ 16 (cK τ 13 c1))) (show cK τ 10 (cK τ 12 c1) < cN τ 0 by first | assumption | omega)) (cwV 1 hts gX7_isCovered_X3_isStoppedOn rfl rfl rfl (by decide +kernel) ⟨Nat.le_of_ble_eq_true rfl, Nat.le_of_ble_eq_true rfl⟩) I (hR.f10 (show cK τ 10 (cK τ 12 c1) < cN τ 0 by first | assumption | omega)) rfl rfl hl.1 rfl (Nat.le_of_ble_eq_true rfl) dX7_isCovered_36 ⟨Nat.le_of_ble_eq_true rfl, Nat.le_of_ble_eq_true rfl⟩ ?_
    refine W.eq (g2 := F0 m 39 ls [.int (fX3_isStoppedOn τ (cK τ 10 (cK τ 12 c1)) (nI (cK τ 16 (cK τ 13 c1))))]) rfl ?_
    refine lv_if_ne (tgt := 58) hx hb dX7_isCovered_39 (by decide) (fun c_39 => ?_) (fun c_39 => ?_)
    · skip
      rw [if_neg c_39] at hG
      refine lv_iconst (v := (nI 0)) hx hb dX7_isCovered_58 (by decide) ?_
      exact xrzR hx hb hr hlocks dX7_isCovered_59 hG (by have hG2 : (nI 0) = G := hG; rw [← hG2]; exact xnb (Or.inl rfl))
    · skip
      rw [if_pos c_39] at hG
      refine lv_aload_n hx hb dX7_isCovered_42 rfl (lv_at hl 1 rfl) ?_
      refine lv_aload_n hx hb dX7_isCovered_43 rfl (lv_at hl 2 rfl) ?_
      refine xget (C := RX0) (T := TX0) (N := 8) 0 hx hb hts hin0 hown I (hR.f16 (show c1 < cN τ 3 by first | assumption | omega)) rfl (by decide) (List.mem_of_getElem? (i := 6) rfl) rfl rfl dX7_isCovered_44 ?_
      have b44_12 : cK τ 12 c1 < cN τ 1 := hW.2.2.2.1 c1 (show c1 < cN τ 3 by first | assumption | omega)
      refine lv_iload_n hx hb dX7_isCovered_47 rfl (lv_at hl 0 rfl) ?_
      refine xcvR (As := [.ref (ad 14 (cK τ 12 c1)), .int (nI (cK τ 16 (cK τ 13 c1)))]) (rest := []) (v := some (.int (fX7_wasEntered τ (cK τ 12 c1) (nI (cK τ 16 (cK τ 13 c1)))))) ⟨hx, hb, hml, hown, hts⟩ (mX7_wasEntered l lo D E h Pr τ ad fa hR hW (cK τ 12 c1) (nI (cK τ 16 (cK τ 13 c1))) (show cK τ 12 c1 < cN τ 1 by first | assumption | omega)) (cwV 2 hts gX7_isCovered_X7_wasEntered rfl rfl rfl (by decide +kernel) ⟨Nat.le_of_ble_eq_true rfl, Nat.le_of_ble_eq_true rfl⟩) I hR.f0 rfl rfl hl.1 rfl (Nat.le_of_ble_eq_true rfl) dX7_isCovered_48 ⟨Nat.le_of_ble_eq_true rfl, Nat.le_of_ble_eq_true rfl⟩ ?_
      refine W.eq (g2 := F0 m 51 ls [.int (fX7_wasEntered τ (cK τ 12 c1) (nI (cK τ 16 (cK τ 13 c1))))]) rfl ?_
      refine lv_if_eq (tgt := 58) hx hb dX7_isCovered_51 (by decide) (fun c_51 => ?_) (fun c_51 => ?_)
      · skip
        rw [if_pos c_51] at hG
        refine lv_iconst (v := (nI 0)) hx hb dX7_isCovered_58 (by decide) ?_
        exact xrzR hx hb hr hlocks dX7_isCovered_59 hG (by have hG2 : (nI 0) = G := hG; rw [← hG2]; exact xnb (Or.inl rfl))
      · skip
        rw [if_neg c_51] at hG
        refine lv_iconst (v := (nI 1)) hx hb dX7_isCovered_54 (by decide) ?_
        refine lv_goto (tgt := 59) hx hb dX7_isCovered_55 (by decide) ?_
        exact xrzR hx hb hr hlocks dX7_isCovered_59 hG (by have hG2 : (nI 1) = G := hG; rw [← hG2]; exact xnb (Or.inr rfl))
  · skip
    rw [if_neg c_20] at hG
    refine lv_aload_n hx hb dX7_isCovered_23 rfl (lv_at hl 2 rfl) ?_
    refine xget (C := RX0) (T := TX0) (N := 8) 7 hx hb hts hin0 hown I (hR.f16 (show c1 < cN τ 3 by first | assumption | omega)) rfl (by decide) (List.mem_of_getElem? (i := 5) rfl) rfl rfl dX7_isCovered_24 ?_
    exact xrzR hx hb hr hlocks dX7_isCovered_27 hG (by have hG2 : (cI τ 28 c1) = G := hG; rw [← hG2]; exact xnb (hW0.2.2.2.2.2.2.2.2.2.2.2.1 c1))

theorem zX7_isCovered (τ : CT) (hW : CW τ) (c1 : Nat) : fX7_isCovered τ c1 = 0 ∨ fX7_isCovered τ c1 = 1 := by
  unfold fX7_isCovered
  repeat' split
  all_goals first | exact Or.inl rfl | exact Or.inr rfl | exact hW.2.2.2.2.2.2.2.2.2.2.2.1 _

def fX7_isFirstOfItsGroup_S2 (τ : CT) (c1 : Nat) (k2 : Nat) : (Unit ⊕ Int32) := (if (fX0_isOfGroup τ k2 c1) = 0 then (Sum.inl ()) else (Sum.inr (nI 0)))
def fX7_isFirstOfItsGroup_L2 (τ : CT) (c1 : Nat) : Nat → Nat → Int32
  | 0, k2 => (nI 1)
  | n2 + 1, k2 => lbind (fX7_isFirstOfItsGroup_S2 τ c1 k2) (fun q => fX7_isFirstOfItsGroup_L2 τ c1 n2 (k2 + 1))
def fX7_isFirstOfItsGroup (τ : CT) (c1 : Nat) : Int32 := (fX7_isFirstOfItsGroup_L2 τ c1 c1 0)
set_option maxHeartbeats 4000000 in
set_option maxRecDepth 100000 in
theorem mX7_isFirstOfItsGroup (l : Launch) (lo : Nat) (D : va_G) (E : Nat → ClassId) (h : XW) (Pr : Nat → Prop) (τ : CT) (ad : Nat → Nat → Nat) (fa : Nat → Nat → Option Nat) (hR : RC E Pr τ ad fa h) (hW : CW τ) (c1 : Nat) (hc : c1 < cN τ 3) : Met l yX7_isFirstOfItsGroup wsX7_isFirstOfItsGroup ({ frames := 1, cells := 0, slots := 0, locals := 21 } : Room) (xP lo D E h [.ref (ad 0 0), .int (nI c1)]) (xR (some (.int (fX7_isFirstOfItsGroup τ c1)))) 0 0 (fun _ => False) := by
  obtain ⟨G, hG⟩ : ∃ G, fX7_isFirstOfItsGroup τ c1 = G := ⟨_, rfl⟩
  rw [hG]
  unfold fX7_isFirstOfItsGroup at hG
  refine Met.ofW (cc := cX7_isFirstOfItsGroup) (maxL := 3) (ret := (some .boolean)) (by decide) rfl ?_
  intro p e s m args below meth c s₁ B hml hv
  obtain ⟨rfl, I⟩ := hv
  have hx := B.exec
  have hb := B.bytes
  have hr := B.returns
  have hts := atoms_spec (ws := wsX7_isFirstOfItsGroup) B.pre
  have hown : s.vm.findClass RX7 = some m.cls := findClass_of_methodNamed B.named
  have hlocks := B.notSynchronized
  have hl := lv_entry ([.ref (ad 0 0), .int (nI c1)] : List Value) (n := 3) (Nat.le_of_ble_eq_true rfl)
  rw [lg_entry_eq]
  generalize (lg_sl ([.ref (ad 0 0), .int (nI c1)] : List Value) ++ List.replicate (3 - (lg_sl ([.ref (ad 0 0), .int (nI c1)] : List Value)).length) Slot.unset).toArray = ls at hl ⊢
  have hl : lv_has ls 3 [(0, .ref (ad 0 0)), (1, .int (nI c1))] := hl
  have hin7 : ∀ w ∈ u_ws RX7 TX7 14, w ∈ wsX7_isFirstOfItsGroup := fun _ h => List.mem_cons_of_mem _ (List.mem_append_left _ (List.mem_append_right _ (h)))
  have hin0 : ∀ w ∈ u_ws RX0 TX0 8, w ∈ wsX7_isFirstOfItsGroup := fun _ h => List.mem_cons_of_mem _ (List.mem_append_right _ (h))
  have hW0 := hW
  obtain ⟨w0, -⟩ := id hW
  refine lv_iconst (v := (nI 0)) hx hb dX7_isFirstOfItsGroup_0 (by decide) ?_
  refine lv_istore_n (lv' := [(2, .int (nI 0)), (0, .ref (ad 0 0)), (1, .int (nI c1))]) hx hb dX7_isFirstOfItsGroup_1 rfl hl (by decide) rfl (fun ls hl => ?_)
  have L2 : ∀ (n2 : Nat) (k2 : Nat), k2 + n2 = c1 → fX7_isFirstOfItsGroup_L2 τ c1 n2 k2 = G → ∀ ls : Array Slot, lv_has ls 3 [(0, .ref (ad 0 0)), (1, .int (nI c1)), (2, .int (nI k2))] → W p l e (headSpec wsX7_isFirstOfItsGroup ({ frames := 1, cells := 0, slots := 0, locals := 21 } : Room)).room s m ([.ref (ad 0 0), .int (nI c1)] : List Value).toArray below meth c s.heap [] 0 0 (MQ below (xR (some (.int G))) ([.ref (ad 0 0), .int (nI c1)] : List Value).toArray s 0 0 (fun _ => False)) (F0 m 2 ls []) := by
    intro n2
    induction n2 with
    | zero =>
      intro k2 hkn hG ls hl
      have hkN : k2 = c1 := by omega
      have hG : (nI 1) = G := hG
      refine lv_iload_n hx hb dX7_isFirstOfItsGroup_2 rfl (lv_at hl 2 rfl) ?_
      refine lv_iload_n hx hb dX7_isFirstOfItsGroup_3 rfl (lv_at hl 1 rfl) ?_
      refine lv_icmp_ge (tgt := 33) hx hb dX7_isFirstOfItsGroup_4 (by decide) (fun _ => ?_) (fun q => absurd (nI_le (Nat.le_of_eq hkN.symm) (by omega)) q)
      refine lv_iconst (v := (nI 1)) hx hb dX7_isFirstOfItsGroup_33 (by decide) ?_
      exact xrzR hx hb hr hlocks dX7_isFirstOfItsGroup_34 hG (by have hG2 : (nI 1) = G := hG; rw [← hG2]; exact xnb (Or.inr rfl))
    | succ n2 ih =>
      intro k2 hkn hG ls hl
      have hk : k2 < c1 := by omega
      have hG : lbind ((if (fX0_isOfGroup τ k2 c1) = 0 then (Sum.inl ()) else (Sum.inr (nI 0)))) (fun q => fX7_isFirstOfItsGroup_L2 τ c1 n2 (k2 + 1)) = G := hG
      refine lv_iload_n hx hb dX7_isFirstOfItsGroup_2 rfl (lv_at hl 2 rfl) ?_
      refine lv_iload_n hx hb dX7_isFirstOfItsGroup_3 rfl (lv_at hl 1 rfl) ?_
      refine lv_icmp_ge (tgt := 33) hx hb dX7_isFirstOfItsGroup_4 (by decide) (fun q => absurd q (nI_ge hk (by omega))) (fun _ => ?_)
      refine lv_aload_n hx hb dX7_isFirstOfItsGroup_7 rfl (lv_at hl 0 rfl) ?_
      refine xget (C := RX7) (T := TX7) (N := 14) 3 hx hb hts hin7 hown I hR.f0 rfl (by decide) (List.mem_of_getElem? (i := 1) rfl) rfl rfl dX7_isFirstOfItsGroup_8 ?_
      refine lv_iload_n hx hb dX7_isFirstOfItsGroup_11 rfl (lv_at hl 2 rfl) ?_
      refine xaald (i := k2) (n := 60) 6 hx hb I rfl hR.f4 (by omega) (by decide) (hR.2.2.2.2.2.2.2.1 k2 (show k2 < cN τ 3 by first | assumption | omega)) dX7_isFirstOfItsGroup_12 ?_
      refine W.eq (g2 := F0 m 13 ls [.ref (ad 16 k2)]) rfl ?_
      refine lv_aload_n hx hb dX7_isFirstOfItsGroup_13 rfl (lv_at hl 0 rfl) ?_
      refine xget (C := RX7) (T := TX7) (N := 14) 3 hx hb hts hin7 hown I hR.f0 rfl (by decide) (List.mem_of_getElem? (i := 1) rfl) rfl rfl dX7_isFirstOfItsGroup_14 ?_
      refine lv_iload_n hx hb dX7_isFirstOfItsGroup_17 rfl (lv_at hl 1 rfl) ?_
      refine xaald (i := c1) (n := 60) 6 hx hb I rfl hR.f4 (by omega) (by decide) (hR.2.2.2.2.2.2.2.1 c1 (show c1 < cN τ 3 by first | assumption | omega)) dX7_isFirstOfItsGroup_18 ?_
      refine W.eq (g2 := F0 m 19 ls [.ref (ad 16 c1), .ref (ad 16 k2)]) rfl ?_
      refine xcvR (As := [.ref (ad 16 c1)]) (rest := []) (v := some (.int (fX0_isOfGroup τ k2 c1))) ⟨hx, hb, hml, hown, hts⟩ (mX0_isOfGroup l lo D E h Pr τ ad fa hR hW k2 c1 (show k2 < cN τ 3 by first | assumption | omega) (show c1 < cN τ 3 by first | assumption | omega)) (cwV 1 hts gX7_isFirstOfItsGroup_X0_isOfGroup rfl rfl rfl (by decide +kernel) ⟨Nat.le_of_ble_eq_true rfl, Nat.le_of_ble_eq_true rfl⟩) I (hR.f16 (show k2 < cN τ 3 by first | assumption | omega)) rfl rfl hl.1 rfl (Nat.le_of_ble_eq_true rfl) dX7_isFirstOfItsGroup_19 ⟨Nat.le_of_ble_eq_true rfl, Nat.le_of_ble_eq_true rfl⟩ ?_
      refine W.eq (g2 := F0 m 22 ls [.int (fX0_isOfGroup τ k2 c1)]) rfl ?_
      refine lv_if_eq (tgt := 27) hx hb dX7_isFirstOfItsGroup_22 (by decide) (fun c_22 => ?_) (fun c_22 => ?_)
      · skip
        rw [if_pos c_22] at hG
        refine lv_iinc (v := (nI (k2 + 1))) (lv' := [(2, .int (nI (k2 + 1))), (0, .ref (ad 0 0)), (1, .int (nI c1))]) hx hb dX7_isFirstOfItsGroup_27 hl (k := 2) rfl (nI_succ k2).symm (by decide) rfl (fun ls hl => ?_)
        refine lv_goto (tgt := 2) hx hb dX7_isFirstOfItsGroup_30 (by decide) ?_
        exact ih (k2 + 1) (by first | omega | (simp only [cSI_N, cSL_N, cSM_N, cSD_N]; omega)) hG ls (lv_sub hl [1, 2, 0] rfl)
      · skip
        rw [if_neg c_22] at hG
        refine lv_iconst (v := (nI 0)) hx hb dX7_isFirstOfItsGroup_25 (by decide) ?_
        exact xrzR hx hb hr hlocks dX7_isFirstOfItsGroup_26 hG (by have hG2 : (nI 0) = G := hG; rw [← hG2]; exact xnb (Or.inl rfl))
  exact L2 c1 0 (by omega) hG ls (lv_sub hl [1, 2, 0] rfl)

def fX7_lossesOfGroup_S5 (τ : CT) (c1 : Nat) (k5 : Nat) (a5_2 : Int64) : (Int64) := (if (fX0_isOfGroup τ k5 c1) = 0 then a5_2 else (a5_2 + (fX0_limitedLoss τ k5).toInt64))
def fX7_lossesOfGroup_L5 (τ : CT) (c1 : Nat) : Nat → Nat → Int64 → Int64
  | 0, k5, a5_2 => a5_2
  | n5 + 1, k5, a5_2 => lseq (fX7_lossesOfGroup_S5 τ c1 k5 a5_2) (fun q => fX7_lossesOfGroup_L5 τ c1 n5 (k5 + 1) q)
def fX7_lossesOfGroup (τ : CT) (c1 : Nat) : Int64 := (fX7_lossesOfGroup_L5 τ c1 (cN τ 3 - c1) c1 (0 : Int64))
set_option maxHeartbeats 4000000 in
set_option maxRecDepth 100000 in
theorem mX7_lossesOfGroup (l : Launch) (lo : Nat) (D : va_G) (E : Nat → ClassId) (h : XW) (Pr : Nat → Prop) (τ : CT) (ad : Nat → Nat → Nat) (fa : Nat → Nat → Option Nat) (hR : RC E Pr τ ad fa h) (hW : CW τ) (c1 : Nat) (hc : c1 < cN τ 3) : Met l yX7_lossesOfGroup wsX7_lossesOfGroup ({ frames := 2, cells := 0, slots := 0, locals := 46 } : Room) (xP lo D E h [.ref (ad 0 0), .int (nI c1)]) (xR (some (.long (fX7_lossesOfGroup τ c1)))) 0 0 (fun _ => False) := by
  obtain ⟨G, hG⟩ : ∃ G, fX7_lossesOfGroup τ c1 = G := ⟨_, rfl⟩
  rw [hG]
  unfold fX7_lossesOfGroup at hG
  refine Met.ofW (cc := cX7_lossesOfGroup) (maxL := 5) (ret := (some .long)) (by decide) rfl ?_
  intro p e s m args below meth c s₁ B hml hv
  obtain ⟨rfl, I⟩ := hv
  have hx := B.exec
  have hb := B.bytes
  have hr := B.returns
  have hts := atoms_spec (ws := wsX7_lossesOfGroup) B.pre
  have hown : s.vm.findClass RX7 = some m.cls := findClass_of_methodNamed B.named
  have hlocks := B.notSynchronized
  have hl := lv_entry ([.ref (ad 0 0), .int (nI c1)] : List Value) (n := 5) (Nat.le_of_ble_eq_true rfl)
  rw [lg_entry_eq]
  generalize (lg_sl ([.ref (ad 0 0), .int (nI c1)] : List Value) ++ List.replicate (5 - (lg_sl ([.ref (ad 0 0), .int (nI c1)] : List Value)).length) Slot.unset).toArray = ls at hl ⊢
  have hl : lv_has ls 5 [(0, .ref (ad 0 0)), (1, .int (nI c1))] := hl
  have hin7 : ∀ w ∈ u_ws RX7 TX7 14, w ∈ wsX7_lossesOfGroup := fun _ h => List.mem_cons_of_mem _ (List.mem_append_left _ (List.mem_append_left _ (List.mem_append_right _ (h))))
  have hin5 : ∀ w ∈ u_ws RX5 TX5 4, w ∈ wsX7_lossesOfGroup := fun _ h => List.mem_cons_of_mem _ (List.mem_append_right _ (h))
  have hin0 : ∀ w ∈ u_ws RX0 TX0 8, w ∈ wsX7_lossesOfGroup := fun _ h => List.mem_cons_of_mem _ (List.mem_append_left _ (List.mem_append_right _ (h)))
  have hW0 := hW
  obtain ⟨w0, -⟩ := id hW
  refine lv_lconst (v := (0 : Int64)) hx hb dX7_lossesOfGroup_0 rfl ?_
  refine lv_lstore_n (lv' := [(2, .long (0 : Int64)), (0, .ref (ad 0 0)), (1, .int (nI c1))]) hx hb dX7_lossesOfGroup_1 rfl hl (by decide) rfl (fun ls hl => ?_)
  refine lv_iload_n hx hb dX7_lossesOfGroup_2 rfl (lv_at hl 2 rfl) ?_
  refine lv_istore (lv' := [(4, .int (nI c1)), (2, .long (0 : Int64)), (0, .ref (ad 0 0)), (1, .int (nI c1))]) hx hb dX7_lossesOfGroup_3 hl (by decide) rfl (fun ls hl => ?_)
  have L5 : ∀ (n5 : Nat) (k5 : Nat) (a5_2 : Int64), k5 + n5 = cN τ 3 → fX7_lossesOfGroup_L5 τ c1 n5 k5 a5_2 = G → ∀ ls : Array Slot, lv_has ls 5 [(0, .ref (ad 0 0)), (1, .int (nI c1)), (2, .long a5_2), (4, .int (nI k5))] → W p l e (headSpec wsX7_lossesOfGroup ({ frames := 2, cells := 0, slots := 0, locals := 46 } : Room)).room s m ([.ref (ad 0 0), .int (nI c1)] : List Value).toArray below meth c s.heap [] 0 0 (MQ below (xR (some (.long G))) ([.ref (ad 0 0), .int (nI c1)] : List Value).toArray s 0 0 (fun _ => False)) (F0 m 5 ls []) := by
    intro n5
    induction n5 with
    | zero =>
      intro k5 a5_2 hkn hG ls hl
      have hkN : k5 = cN τ 3 := by omega
      have hG : a5_2 = G := hG
      refine lv_iload hx hb dX7_lossesOfGroup_5 (lv_at hl 3 rfl) ?_
      refine lv_aload_n hx hb dX7_lossesOfGroup_7 rfl (lv_at hl 0 rfl) ?_
      refine xget (C := RX7) (T := TX7) (N := 14) 10 hx hb hts hin7 hown I hR.f0 rfl (by decide) (List.mem_of_getElem? (i := 1) rfl) rfl rfl dX7_lossesOfGroup_8 ?_
      refine lv_icmp_ge (tgt := 53) hx hb dX7_lossesOfGroup_11 (by decide) (fun _ => ?_) (fun q => absurd (nI_le (Nat.le_of_eq hkN.symm) (by omega)) q)
      refine lv_lload_n hx hb dX7_lossesOfGroup_53 rfl (lv_at hl 2 rfl) ?_
      exact xrlR hx hb hr hlocks dX7_lossesOfGroup_54 hG
    | succ n5 ih =>
      intro k5 a5_2 hkn hG ls hl
      have hk : k5 < cN τ 3 := by omega
      have hG : lseq ((if (fX0_isOfGroup τ k5 c1) = 0 then a5_2 else (a5_2 + (fX0_limitedLoss τ k5).toInt64))) (fun q => fX7_lossesOfGroup_L5 τ c1 n5 (k5 + 1) q) = G := hG
      refine lv_iload hx hb dX7_lossesOfGroup_5 (lv_at hl 3 rfl) ?_
      refine lv_aload_n hx hb dX7_lossesOfGroup_7 rfl (lv_at hl 0 rfl) ?_
      refine xget (C := RX7) (T := TX7) (N := 14) 10 hx hb hts hin7 hown I hR.f0 rfl (by decide) (List.mem_of_getElem? (i := 1) rfl) rfl rfl dX7_lossesOfGroup_8 ?_
      refine lv_icmp_ge (tgt := 53) hx hb dX7_lossesOfGroup_11 (by decide) (fun q => absurd q (nI_ge hk (by omega))) (fun _ => ?_)
      refine lv_aload_n hx hb dX7_lossesOfGroup_14 rfl (lv_at hl 0 rfl) ?_
      refine xget (C := RX7) (T := TX7) (N := 14) 3 hx hb hts hin7 hown I hR.f0 rfl (by decide) (List.mem_of_getElem? (i := 2) rfl) rfl rfl dX7_lossesOfGroup_15 ?_
      refine lv_iload hx hb dX7_lossesOfGroup_18 (lv_at hl 3 rfl) ?_
      refine xaald (i := k5) (n := 60) 6 hx hb I rfl hR.f4 (by omega) (by decide) (hR.2.2.2.2.2.2.2.1 k5 (show k5 < cN τ 3 by first | assumption | omega)) dX7_lossesOfGroup_20 ?_
      refine W.eq (g2 := F0 m 21 ls [.ref (ad 16 k5)]) rfl ?_
      refine lv_aload_n hx hb dX7_lossesOfGroup_21 rfl (lv_at hl 0 rfl) ?_
      refine xget (C := RX7) (T := TX7) (N := 14) 3 hx hb hts hin7 hown I hR.f0 rfl (by decide) (List.mem_of_getElem? (i := 2) rfl) rfl rfl dX7_lossesOfGroup_22 ?_
      refine lv_iload_n hx hb dX7_lossesOfGroup_25 rfl (lv_at hl 1 rfl) ?_
      refine xaald (i := c1) (n := 60) 6 hx hb I rfl hR.f4 (by omega) (by decide) (hR.2.2.2.2.2.2.2.1 c1 (show c1 < cN τ 3 by first | assumption | omega)) dX7_lossesOfGroup_26 ?_
      refine W.eq (g2 := F0 m 27 ls [.ref (ad 16 c1), .ref (ad 16 k5)]) rfl ?_
      refine xcvR (As := [.ref (ad 16 c1)]) (rest := []) (v := some (.int (fX0_isOfGroup τ k5 c1))) ⟨hx, hb, hml, hown, hts⟩ (mX0_isOfGroup l lo D E h Pr τ ad fa hR hW k5 c1 (show k5 < cN τ 3 by first | assumption | omega) (show c1 < cN τ 3 by first | assumption | omega)) (cwV 1 hts gX7_lossesOfGroup_X0_isOfGroup rfl rfl rfl (by decide +kernel) ⟨Nat.le_of_ble_eq_true rfl, Nat.le_of_ble_eq_true rfl⟩) I (hR.f16 (show k5 < cN τ 3 by first | assumption | omega)) rfl rfl hl.1 rfl (Nat.le_of_ble_eq_true rfl) dX7_lossesOfGroup_27 ⟨Nat.le_of_ble_eq_true rfl, Nat.le_of_ble_eq_true rfl⟩ ?_
      refine W.eq (g2 := F0 m 30 ls [.int (fX0_isOfGroup τ k5 c1)]) rfl ?_
      refine lv_if_eq (tgt := 47) hx hb dX7_lossesOfGroup_30 (by decide) (fun c_30 => ?_) (fun c_30 => ?_)
      · skip
        rw [if_pos c_30] at hG
        refine lv_iinc (v := (nI (k5 + 1))) (lv' := [(4, .int (nI (k5 + 1))), (0, .ref (ad 0 0)), (1, .int (nI c1)), (2, .long a5_2)]) hx hb dX7_lossesOfGroup_47 hl (k := 3) rfl (nI_succ k5).symm (by decide) rfl (fun ls hl => ?_)
        refine lv_goto (tgt := 5) hx hb dX7_lossesOfGroup_50 (by decide) ?_
        exact ih (k5 + 1) a5_2 (by first | omega | (simp only [cSI_N, cSL_N, cSM_N, cSD_N]; omega)) hG ls (lv_sub hl [1, 2, 3, 0] rfl)
      · skip
        rw [if_neg c_30] at hG
        refine lv_lload_n hx hb dX7_lossesOfGroup_33 rfl (lv_at hl 2 rfl) ?_
        refine lv_aload_n hx hb dX7_lossesOfGroup_34 rfl (lv_at hl 0 rfl) ?_
        refine xget (C := RX7) (T := TX7) (N := 14) 3 hx hb hts hin7 hown I hR.f0 rfl (by decide) (List.mem_of_getElem? (i := 2) rfl) rfl rfl dX7_lossesOfGroup_35 ?_
        refine lv_iload hx hb dX7_lossesOfGroup_38 (lv_at hl 3 rfl) ?_
        refine xaald (i := k5) (n := 60) 6 hx hb I rfl hR.f4 (by omega) (by decide) (hR.2.2.2.2.2.2.2.1 k5 (show k5 < cN τ 3 by first | assumption | omega)) dX7_lossesOfGroup_40 ?_
        refine W.eq (g2 := F0 m 41 ls [.ref (ad 16 k5), .long a5_2]) rfl ?_
        refine xcvR (As := []) (rest := [.long a5_2]) (v := some (.int (fX0_limitedLoss τ k5))) ⟨hx, hb, hml, hown, hts⟩ (mX0_limitedLoss l lo D E h Pr τ ad fa hR hW k5 (show k5 < cN τ 3 by first | assumption | omega)) (cwV 0 hts gX7_lossesOfGroup_X0_limitedLoss rfl rfl rfl (by decide +kernel) ⟨Nat.le_of_ble_eq_true rfl, Nat.le_of_ble_eq_true rfl⟩) I (hR.f16 (show k5 < cN τ 3 by first | assumption | omega)) rfl rfl hl.1 rfl (Nat.le_of_ble_eq_true rfl) dX7_lossesOfGroup_41 ⟨Nat.le_of_ble_eq_true rfl, Nat.le_of_ble_eq_true rfl⟩ ?_
        refine W.eq (g2 := F0 m 44 ls [.int (fX0_limitedLoss τ k5), .long a5_2]) rfl ?_
        refine lv_i2l (v := (fX0_limitedLoss τ k5).toInt64) hx hb dX7_lossesOfGroup_44 rfl ?_
        refine lv_ladd hx hb dX7_lossesOfGroup_45 ?_
        refine lv_lstore_n (lv' := [(2, .long (a5_2 + (fX0_limitedLoss τ k5).toInt64)), (0, .ref (ad 0 0)), (1, .int (nI c1)), (4, .int (nI k5))]) hx hb dX7_lossesOfGroup_46 rfl hl (by decide) rfl (fun ls hl => ?_)
        refine lv_iinc (v := (nI (k5 + 1))) (lv' := [(4, .int (nI (k5 + 1))), (2, .long (a5_2 + (fX0_limitedLoss τ k5).toInt64)), (0, .ref (ad 0 0)), (1, .int (nI c1))]) hx hb dX7_lossesOfGroup_47 hl (k := 3) rfl (nI_succ k5).symm (by decide) rfl (fun ls hl => ?_)
        refine lv_goto (tgt := 5) hx hb dX7_lossesOfGroup_50 (by decide) ?_
        exact ih (k5 + 1) (a5_2 + (fX0_limitedLoss τ k5).toInt64) (by first | omega | (simp only [cSI_N, cSL_N, cSM_N, cSD_N]; omega)) hG ls (lv_sub hl [2, 3, 1, 0] rfl)
  exact L5 (cN τ 3 - c1) c1 (0 : Int64) (by omega) hG ls (lv_sub hl [2, 3, 1, 0] rfl)
