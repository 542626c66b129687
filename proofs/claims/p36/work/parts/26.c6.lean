def fX7_member (τ : CT) : (String ⊕ (Int32 × CT)) := (if (nI (cN τ 0)) < (nI 12) then (Sum.inr (((nI (cN (cNewM τ) 0)) - (nI 1)), (cNewM τ))) else (Sum.inl "java/lang/IllegalStateException"))
set_option maxHeartbeats 4000000 in
set_option maxRecDepth 100000 in
theorem mX7_member (l : Launch) (lo : Nat) (D : va_G) (E : Nat → ClassId) (h : XW) (hlst : l.stackTraces = false) (Pr : Nat → Prop) (τ : CT) (ad : Nat → Nat → Nat) (fa : Nat → Nat → Option Nat) (hR : RC E Pr τ ad fa h) (hW : CW τ) : vx_Met l yX7_member wsX7_member ({ frames := 6, cells := 4, slots := 65, locals := 90 } : Room) (xP lo D E h [.ref (ad 0 0)]) (xQ lo D (fun v h' => ∃ x, (fX7_member τ) = .inr x ∧ ∃ (ad' : Nat → Nat → Nat) (fa' : Nat → Nat → Option Nat), v = some (.int x.1) ∧ RC E Pr (x.2) ad' fa' h' ∧ cF Pr h h' ∧ CW x.2 ∧ ad' 0 0 = ad 0 0)) (xXp lo D h (fun En => (fX7_member τ) = .inl En)) 4 65 (xA lo) := by
  obtain ⟨G, hG⟩ : ∃ G, fX7_member τ = G := ⟨_, rfl⟩
  rw [hG]
  unfold fX7_member at hG
  refine vx_ofW (cc := cX7_member) (maxL := 1) (ret := (some .int)) (by decide) rfl ?_
  intro p e s m args below meth c s₁ B hml hout hv
  obtain ⟨rfl, I⟩ := hv
  have hx := B.exec
  have hb := B.bytes
  have hr := B.returns
  have hts := atoms_spec (ws := wsX7_member) B.pre
  have hown : s.vm.findClass RX7 = some m.cls := findClass_of_methodNamed B.named
  have hlocks := B.notSynchronized
  have hl := lv_entry ([.ref (ad 0 0)] : List Value) (n := 1) (Nat.le_of_ble_eq_true rfl)
  rw [lg_entry_eq]
  generalize (lg_sl ([.ref (ad 0 0)] : List Value) ++ List.replicate (1 - (lg_sl ([.ref (ad 0 0)] : List Value)).length) Slot.unset).toArray = ls at hl ⊢
  have hl : lv_has ls 1 [(0, .ref (ad 0 0))] := hl
  have hin7 : ∀ w ∈ u_ws RX7 TX7 14, w ∈ wsX7_member := fun _ h => List.mem_cons_of_mem _ (List.mem_append_left _ (List.mem_append_left _ (List.mem_append_right _ (h))))
  have hin3 : ∀ w ∈ u_ws RX3 TX3 5, w ∈ wsX7_member := fun _ h => List.mem_cons_of_mem _ (List.mem_append_left _ (List.mem_append_right _ (h)))
  have hg61 : ∀ w ∈ (vx_atS RX7 61 "java/lang/IllegalStateException" xnames).filter goodWord, w ∈ wsX7_member := fun _ h => List.mem_cons_of_mem _ (List.mem_append_right _ (h))
  have hW0 := hW
  obtain ⟨w0, -⟩ := id hW
  have hS : va_S (xA lo) s.heap s.heap [] := va_S.rf
  have hT0 : XT lo s s.heap := I.2.2.2.2
  have hF : cF Pr h h := cF.rf
  refine lv_aload_n hx hb dX7_member_0 rfl (lv_at hl 0 rfl) ?_
  refine xget (C := RX7) (T := TX7) (N := 14) 7 hx hb hts hin7 hown I hR.f0 rfl (by decide) (List.mem_of_getElem? (i := 3) rfl) rfl rfl dX7_member_1 ?_
  refine lv_bipush (v := (nI 12)) hx hb dX7_member_4 (by decide) ?_
  refine lv_icmp_lt (tgt := 19) hx hb dX7_member_6 (by decide) (fun c_6 => ?_) (fun c_6 => ?_)
  · skip
    rw [if_pos c_6] at hG
    have hlt0 : cN τ 0 < 12 := (nI_ltI (by omega) (by decide)).mp c_6
    refine lv_aload_n hx hb dX7_member_19 rfl (lv_at hl 0 rfl) ?_
    refine xget (C := RX7) (T := TX7) (N := 14) 0 hx hb hts hin7 hown I hR.f0 rfl (by decide) (List.mem_of_getElem? (i := 4) rfl) rfl rfl dX7_member_20 ?_
    refine lv_aload_n hx hb dX7_member_23 rfl (lv_at hl 0 rfl) ?_
    refine xget (C := RX7) (T := TX7) (N := 14) 7 hx hb hts hin7 hown I hR.f0 rfl (by decide) (List.mem_of_getElem? (i := 3) rfl) rfl rfl dX7_member_24 ?_
    refine xnewL (C := RX3) (T := TX3) (N := 5) (ci := 3) (fs := [.null, .null, .null, .long 0, .int 0]) hx hb hts hin3 tyX3 tyX3_ok hown (List.mem_of_getElem? (i := 5) rfl) (List.mem_of_getElem? (i := 6) rfl) (List.mem_of_getElem? (i := 7) rfl) I xNs.nil hS rfl (by decide) (Nat.le_of_ble_eq_true rfl) (Nat.le_of_ble_eq_true rfl) dX7_member_27 (fun o27 H hw I hN hS => ?_)
    have hR0 := hR
    have hF0 := hF
    have hR := hR0.keepN hN
    have hF := hF0.keepN hR0.2.2.2.1 hN
    refine lv_dup hx hb dX7_member_30 rfl ?_
    refine xciQ (As := []) (rest := [.ref o27, .int (nI (cN τ 0)), .ref (ad 1 0)]) ⟨hx, hb, hml, hown, hts⟩ (mX3_init l lo D E hw _ [] o27 hN) (cwI 0 hts gX7_member_X3_init rfl rfl rfl (hts _ (List.mem_of_getElem? (i := 7) rfl)) (hts _ (List.mem_of_getElem? (i := 8) rfl)) (hts _ (List.mem_of_getElem? (i := 9) rfl)) rfl (by decide +kernel) ⟨Nat.le_of_ble_eq_true rfl, Nat.le_of_ble_eq_true rfl⟩) I hS rfl hl.1 rfl (Nat.le_of_ble_eq_true rfl) dX7_member_31 ⟨Nat.le_of_ble_eq_true rfl, Nat.le_of_ble_eq_true rfl⟩ (fun v9 hw H locs q9 I hS => ?_)
    obtain ⟨rfl, na1, na2, na3, hN⟩ := q9
    have hR := hR0.keepN hN
    have hF := hF0.keepN hR0.2.2.2.1 hN
    refine W.eq (g2 := F0 m 34 ls [.ref o27, .int (nI (cN τ 0)), .ref (ad 1 0)]) rfl ?_
    refine xaast (i := (cN τ 0)) (n := 12) (ci := 3) (r := (RX3, TX3, 5)) 3 hx hb I hS hR.f1 rfl (hN.get (k := 3) rfl) rfl (by omega) (by decide) dX7_member_34 (fun H locs I hS => ?_)
    have hN := hN.both (q := ad 1 0) (.inl (E 3, 12, .inr (.inr (.inr (.inr (va_up (fa 1) (cN τ 0) (some o27))))))) (hR0.isS (K := 1) (i := 0) rfl)
    have hF0 := hF0.put (a := ad 1 0) (e := .inl (E 3, 12, .inr (.inr (.inr (.inr (va_up (fa 1) (cN τ 0) (some o27))))))) (hR0.2.2.1 1 0 rfl)
    have hR0 := hR0.store (k := 1) (j := (cN τ 0)) (some o27) (Or.inl ⟨rfl, Nat.le_refl _⟩) (congrArg (fun f => (.inl (E 3, 12, .inr (.inr (.inr (.inr f)))) : va_E)) fset_up.symm)
    have hR := hR0.keepN hN
    have hF := hF0.keepN hR0.2.2.2.1 hN
    refine lv_aload_n hx hb dX7_member_35 rfl (lv_at hl 0 rfl) ?_
    refine lv_dup hx hb dX7_member_36 rfl ?_
    refine xget (C := RX7) (T := TX7) (N := 14) 7 hx hb hts hin7 hown I hR.f0 rfl (by decide) (List.mem_of_getElem? (i := 3) rfl) rfl rfl dX7_member_37 ?_
    refine lv_iconst (v := (nI 1)) hx hb dX7_member_40 (by decide) ?_
    refine lv_iadd hx hb dX7_member_41 ?_
    refine xtop (y := .int (nI (cN τ 0 + 1))) (congrArg Value.int (nI_add _ _)) ?_
    obtain ⟨ad_42, hR1, hA42, hZ42⟩ := hR.gM hW (by simp [fset]) (hN.get (k := 3) rfl) (hN.get (k := 2) rfl) (hN.get (k := 1) rfl) (hN.get (k := 0) rfl) (hR0.newN hN (k := 3) rfl) (hR0.newN hN (k := 2) rfl) (hR0.newN hN (k := 1) rfl) (hR0.newN hN (k := 0) rfl) (hN.ne (i := 3) (j := 2) rfl rfl (by decide)) (hN.ne (i := 3) (j := 1) rfl rfl (by decide)) (hN.ne (i := 3) (j := 0) rfl rfl (by decide)) (hN.ne (i := 2) (j := 1) rfl rfl (by decide)) (hN.ne (i := 2) (j := 0) rfl rfl (by decide)) (hN.ne (i := 1) (j := 0) rfl rfl (by decide))
    refine xputC 7 hx hb hts hin7 tyX7 tyX7_ok nmX7 hown I hS hF hR.f0 rfl (by decide) (List.mem_of_getElem? (i := 3) rfl) rfl rfl rfl rfl rfl (Nat.le_of_ble_eq_true rfl) hR1 (hR.2.2.1 0 0 rfl) dX7_member_42 (fun H locs hw I hR hF hS => ?_)
    have hR : RC E Pr (cNewM τ) ad_42 (fset fa 1 (cN τ 0) (some o27)) hw := hR
    have hW : CW (cNewM τ) := hW.newM (by omega)
    have wN42 := hW.1
    have wn42_0 : cN (cNewM τ) 0 = cN τ 0 + 1 := cNewM_N _
    have wn42_1 : cN (cNewM τ) 1 = cN τ 1 := cNewM_N1 _
    have wn42_2 : cN (cNewM τ) 2 = cN τ 2 := cNewM_N2 _
    have wn42_3 : cN (cNewM τ) 3 = cN τ 3 := cNewM_N3 _
    have wn42_4 : cN (cNewM τ) 4 = cN τ 4 := cNewM_N4 _
    have wn42_5 : cN (cNewM τ) 5 = cN τ 5 := cNewM_N5 _
    have z42_0 : ad 0 0 = ad_42 0 0 := (hA42 0 0 rfl).symm
    try rw [z42_0] at hl
    refine lv_aload_n hx hb dX7_member_45 rfl (lv_at hl 0 rfl) ?_
    refine xget (C := RX7) (T := TX7) (N := 14) 7 hx hb hts hin7 hown I hR.f0 rfl (by decide) (List.mem_of_getElem? (i := 3) rfl) rfl rfl dX7_member_46 ?_
    refine lv_iconst (v := (nI 1)) hx hb dX7_member_49 (by decide) ?_
    refine lv_isub hx hb dX7_member_50 ?_
    exact xriX hx hb hr hlocks dX7_member_51 I hS ⟨_, hG.symm, ad_42, (fset fa 1 (cN τ 0) (some o27)), rfl, hR, hF, hW, ((hA42 0 0 rfl).trans rfl)⟩ (Nat.le_of_ble_eq_true rfl) (Nat.le_of_ble_eq_true rfl)
  · skip
    rw [if_neg c_6] at hG
    exact xthS (ik := 57) (is := 59) (ic := 61) (X := "java/lang/IllegalStateException") (text := "there are 12 members") hx hb hlst hown hts (by decide) (List.mem_of_getElem? (i := 1) rfl) (List.mem_of_getElem? (i := 2) rfl) hg61 (by decide) hT0 I hS (hl.1.trans hml.symm) dX7_member_9 dX7_member_12 dX7_member_13 dX7_member_15 dX7_member_18 hout (Nat.le_of_ble_eq_true rfl) (Nat.le_of_ble_eq_true rfl) (Nat.le_of_ble_eq_true rfl) (Nat.le_of_ble_eq_true rfl) hlocks hG.symm (Nat.le_of_ble_eq_true rfl) (Nat.le_of_ble_eq_true rfl)

def fX7_ship (τ : CT) (a1 : Int32) (a2 : Int32) : (String ⊕ (Int32 × CT)) := (xbindE (fX7_memberOf τ a1) (fun x2 => (xbindE (fX7_checkRange a2 (nI 1) (nI 999)) (fun _ => (if (nI (cN τ 1)) < (nI 24) then (Sum.inr (((nI (cN (cNewS τ x2 (nI (tn a2))) 1)) - (nI 1)), (cNewS τ x2 (nI (tn a2))))) else (Sum.inl "java/lang/IllegalStateException"))))))
set_option maxHeartbeats 4000000 in
set_option maxRecDepth 100000 in
theorem mX7_ship (l : Launch) (lo : Nat) (D : va_G) (E : Nat → ClassId) (h : XW) (hlst : l.stackTraces = false) (Pr : Nat → Prop) (τ : CT) (ad : Nat → Nat → Nat) (fa : Nat → Nat → Option Nat) (hR : RC E Pr τ ad fa h) (hW : CW τ) (a1 : Int32) (a2 : Int32) : vx_Met l yX7_ship wsX7_ship ({ frames := 7, cells := 3, slots := 18, locals := 112 } : Room) (xP lo D E h [.ref (ad 0 0), .int a1, .int a2]) (xQ lo D (fun v h' => ∃ x, (fX7_ship τ a1 a2) = .inr x ∧ ∃ (ad' : Nat → Nat → Nat) (fa' : Nat → Nat → Option Nat), v = some (.int x.1) ∧ RC E Pr (x.2) ad' fa' h' ∧ cF Pr h h' ∧ CW x.2 ∧ ad' 0 0 = ad 0 0)) (xXp lo D h (fun En => (fX7_ship τ a1 a2) = .inl En)) 3 18 (xA lo) := by
  obtain ⟨G, hG⟩ : ∃ G, fX7_ship τ a1 a2 = G := ⟨_, rfl⟩
  rw [hG]
  unfold fX7_ship at hG
  refine vx_ofW (cc := cX7_ship) (maxL := 4) (ret := (some .int)) (by decide) rfl ?_
  intro p e s m args below meth c s₁ B hml hout hv
  obtain ⟨rfl, I⟩ := hv
  have hx := B.exec
  have hb := B.bytes
  have hr := B.returns
  have hts := atoms_spec (ws := wsX7_ship) B.pre
  have hown : s.vm.findClass RX7 = some m.cls := findClass_of_methodNamed B.named
  have hlocks := B.notSynchronized
  have hl := lv_entry ([.ref (ad 0 0), .int a1, .int a2] : List Value) (n := 4) (Nat.le_of_ble_eq_true rfl)
  rw [lg_entry_eq]
  generalize (lg_sl ([.ref (ad 0 0), .int a1, .int a2] : List Value) ++ List.replicate (4 - (lg_sl ([.ref (ad 0 0), .int a1, .int a2] : List Value)).length) Slot.unset).toArray = ls at hl ⊢
  have hl : lv_has ls 4 [(0, .ref (ad 0 0)), (1, .int a1), (2, .int a2)] := hl
  have hin7 : ∀ w ∈ u_ws RX7 TX7 14, w ∈ wsX7_ship := fun _ h => List.mem_cons_of_mem _ (List.mem_append_left _ (List.mem_append_left _ (List.mem_append_left _ (List.mem_append_left _ (List.mem_append_right _ (h))))))
  have hin5 : ∀ w ∈ u_ws RX5 TX5 4, w ∈ wsX7_ship := fun _ h => List.mem_cons_of_mem _ (List.mem_append_left _ (List.mem_append_left _ (List.mem_append_left _ (List.mem_append_right _ (h)))))
  have hg61 : ∀ w ∈ (vx_atS RX7 61 "java/lang/IllegalStateException" xnames).filter goodWord, w ∈ wsX7_ship := fun _ h => List.mem_cons_of_mem _ (List.mem_append_left _ (List.mem_append_left _ (List.mem_append_right _ (h))))
  have hg334 : ∀ w ∈ (vx_atS RX7 334 "java/lang/IndexOutOfBoundsException" xnames).filter goodWord, w ∈ wsX7_ship := fun _ h => List.mem_cons_of_mem _ (List.mem_append_left _ (List.mem_append_right _ (h)))
  have hg177 : ∀ w ∈ (vx_atS RX7 177 "java/lang/IllegalArgumentException" xnames).filter goodWord, w ∈ wsX7_ship := fun _ h => List.mem_cons_of_mem _ (List.mem_append_right _ (h))
  have hW0 := hW
  obtain ⟨w0, -⟩ := id hW
  have hS : va_S (xA lo) s.heap s.heap [] := va_S.rf
  have hT0 : XT lo s s.heap := I.2.2.2.2
  have hF : cF Pr h h := cF.rf
  refine lv_aload_n hx hb dX7_ship_0 rfl (lv_at hl 0 rfl) ?_
  refine lv_iload_n hx hb dX7_ship_1 rfl (lv_at hl 1 rfl) ?_
  refine xcvX (As := [.int a1]) (rest := []) ⟨hx, hb, hml, hown, hts⟩ (mX7_memberOf l lo D E h hlst Pr τ ad fa hR hW a1) (cwV 1 hts gX7_ship_X7_memberOf rfl rfl rfl (by decide +kernel) ⟨Nat.le_of_ble_eq_true rfl, Nat.le_of_ble_eq_true rfl⟩) I hS hR.f0 rfl rfl hl.1 rfl (Nat.le_of_ble_eq_true rfl) dX7_ship_2 ⟨Nat.le_of_ble_eq_true rfl, Nat.le_of_ble_eq_true rfl⟩ hout hlocks (fun En q => by rw [q] at hG; exact hG.symm) ⟨Nat.le_of_ble_eq_true rfl, Nat.le_of_ble_eq_true rfl⟩ (fun v9 hw9 H locs q9 I hS => ?_)
  obtain ⟨x2, e2, q1, q2⟩ := q9
  subst q1
  rw [q2] at I
  rw [e2] at hG
  have hG : (xbindE (fX7_checkRange a2 (nI 1) (nI 999)) (fun _ => (if (nI (cN τ 1)) < (nI 24) then (Sum.inr (((nI (cN (cNewS τ x2 (nI (tn a2))) 1)) - (nI 1)), (cNewS τ x2 (nI (tn a2))))) else (Sum.inl "java/lang/IllegalStateException")))) = G := hG
  obtain ⟨l_x2, e_x2⟩ := okc_memberOf hW0 e2
  refine W.eq (g2 := F0 m 5 ls [.ref (ad 10 x2)]) rfl ?_
  refine lv_astore_n (lv' := [(3, .ref (ad 10 x2)), (0, .ref (ad 0 0)), (1, .int a1), (2, .int a2)]) hx hb dX7_ship_5 rfl hl (by decide) rfl (fun ls hl => ?_)
  refine lv_iload_n hx hb dX7_ship_6 rfl (lv_at hl 3 rfl) ?_
  refine lv_iconst (v := (nI 1)) hx hb dX7_ship_7 (by decide) ?_
  refine lv_sipush (v := (nI 999)) hx hb dX7_ship_8 (by decide) ?_
  refine xcsX (As := [.int a2, .int (nI 1), .int (nI 999)]) (rest := []) ⟨hx, hb, hml, hown, hts⟩ (mX7_checkRange l lo D E h hlst a2 (nI 1) (nI 999)) (va_cwS 3 hts gX7_ship_X7_checkRange rfl rfl rfl (by decide +kernel) ⟨Nat.le_of_ble_eq_true rfl, Nat.le_of_ble_eq_true rfl⟩) I hS rfl hl.1 rfl (Nat.le_of_ble_eq_true rfl) dX7_ship_11 ⟨Nat.le_of_ble_eq_true rfl, Nat.le_of_ble_eq_true rfl⟩ hout hlocks (fun En q => by rw [q] at hG; exact hG.symm) ⟨Nat.le_of_ble_eq_true rfl, Nat.le_of_ble_eq_true rfl⟩ (fun v9 hw9 H locs q9 I hS => ?_)
  obtain ⟨x11, e11, q1, q2⟩ := q9
  subst q1
  rw [q2] at I
  rw [e11] at hG
  have hG : (if (nI (cN τ 1)) < (nI 24) then (Sum.inr (((nI (cN (cNewS τ x2 (nI (tn a2))) 1)) - (nI 1)), (cNewS τ x2 (nI (tn a2))))) else (Sum.inl "java/lang/IllegalStateException")) = G := hG
  obtain ⟨e_a2, l_a2⟩ := okc_checkRange (by omega) e11
  refine W.eq (g2 := F0 m 14 ls []) rfl ?_
  refine lv_aload_n hx hb dX7_ship_14 rfl (lv_at hl 1 rfl) ?_
  refine xget (C := RX7) (T := TX7) (N := 14) 8 hx hb hts hin7 hown I hR.f0 rfl (by decide) (List.mem_of_getElem? (i := 3) rfl) rfl rfl dX7_ship_15 ?_
  refine lv_bipush (v := (nI 24)) hx hb dX7_ship_18 (by decide) ?_
  refine lv_icmp_lt (tgt := 33) hx hb dX7_ship_20 (by decide) (fun c_20 => ?_) (fun c_20 => ?_)
  · skip
    rw [if_pos c_20] at hG
    have hlt1 : cN τ 1 < 24 := (nI_ltI (by omega) (by decide)).mp c_20
    refine lv_aload_n hx hb dX7_ship_33 rfl (lv_at hl 1 rfl) ?_
    refine xget (C := RX7) (T := TX7) (N := 14) 1 hx hb hts hin7 hown I hR.f0 rfl (by decide) (List.mem_of_getElem? (i := 4) rfl) rfl rfl dX7_ship_34 ?_
    refine lv_aload_n hx hb dX7_ship_37 rfl (lv_at hl 1 rfl) ?_
    refine xget (C := RX7) (T := TX7) (N := 14) 8 hx hb hts hin7 hown I hR.f0 rfl (by decide) (List.mem_of_getElem? (i := 3) rfl) rfl rfl dX7_ship_38 ?_
    refine xnewL (C := RX5) (T := TX5) (N := 4) (ci := 5) (fs := [.null, .int 0, .null, .long 0]) hx hb hts hin5 tyX5 tyX5_ok hown (List.mem_of_getElem? (i := 5) rfl) (List.mem_of_getElem? (i := 6) rfl) (List.mem_of_getElem? (i := 7) rfl) I xNs.nil hS rfl (by decide) (Nat.le_of_ble_eq_true rfl) (Nat.le_of_ble_eq_true rfl) dX7_ship_41 (fun o41 H hw I hN hS => ?_)
    have hR0 := hR
    have hF0 := hF
    have hR := hR0.keepN hN
    have hF := hF0.keepN hR0.2.2.2.1 hN
    refine lv_dup hx hb dX7_ship_44 rfl ?_
    refine lv_aload_n hx hb dX7_ship_45 rfl (lv_at hl 0 rfl) ?_
    refine lv_iload_n hx hb dX7_ship_46 rfl (lv_at hl 3 rfl) ?_
    refine xtop (y := .int (nI (tn a2))) (congrArg Value.int e_a2) ?_
    refine xciQ (As := [.ref (ad 10 x2), .int (nI (tn a2))]) (rest := [.ref o41, .int (nI (cN τ 1)), .ref (ad 2 0)]) ⟨hx, hb, hml, hown, hts⟩ (mX5_init l lo D E hw _ [] o41 (ad 10 x2) (nI (tn a2)) hN) (cwI 2 hts gX7_ship_X5_init rfl rfl rfl (hts _ (List.mem_of_getElem? (i := 7) rfl)) (hts _ (List.mem_of_getElem? (i := 22) rfl)) (hts _ (List.mem_of_getElem? (i := 23) rfl)) rfl (by decide +kernel) ⟨Nat.le_of_ble_eq_true rfl, Nat.le_of_ble_eq_true rfl⟩) I hS rfl hl.1 rfl (Nat.le_of_ble_eq_true rfl) dX7_ship_47 ⟨Nat.le_of_ble_eq_true rfl, Nat.le_of_ble_eq_true rfl⟩ (fun v9 hw H locs q9 I hS => ?_)
    obtain ⟨rfl, hN⟩ := q9
    have hR := hR0.keepN hN
    have hF := hF0.keepN hR0.2.2.2.1 hN
    refine W.eq (g2 := F0 m 50 ls [.ref o41, .int (nI (cN τ 1)), .ref (ad 2 0)]) rfl ?_
    refine xaast (i := (cN τ 1)) (n := 24) (ci := 5) (r := (RX5, TX5, 4)) 4 hx hb I hS hR.f2 rfl (hN.get (k := 0) rfl) rfl (by omega) (by decide) dX7_ship_50 (fun H locs I hS => ?_)
    have hN := hN.both (q := ad 2 0) (.inl (E 4, 24, .inr (.inr (.inr (.inr (va_up (fa 2) (cN τ 1) (some o41))))))) (hR0.isS (K := 2) (i := 0) rfl)
    have hF0 := hF0.put (a := ad 2 0) (e := .inl (E 4, 24, .inr (.inr (.inr (.inr (va_up (fa 2) (cN τ 1) (some o41))))))) (hR0.2.2.1 2 0 rfl)
    have hR0 := hR0.store (k := 2) (j := (cN τ 1)) (some o41) (Or.inr (Or.inl ⟨rfl, Nat.le_refl _⟩)) (congrArg (fun f => (.inl (E 4, 24, .inr (.inr (.inr (.inr f)))) : va_E)) fset_up.symm)
    have hR := hR0.keepN hN
    have hF := hF0.keepN hR0.2.2.2.1 hN
    refine lv_aload_n hx hb dX7_ship_51 rfl (lv_at hl 1 rfl) ?_
    refine lv_dup hx hb dX7_ship_52 rfl ?_
    refine xget (C := RX7) (T := TX7) (N := 14) 8 hx hb hts hin7 hown I hR.f0 rfl (by decide) (List.mem_of_getElem? (i := 3) rfl) rfl rfl dX7_ship_53 ?_
    refine lv_iconst (v := (nI 1)) hx hb dX7_ship_56 (by decide) ?_
    refine lv_iadd hx hb dX7_ship_57 ?_
    refine xtop (y := .int (nI (cN τ 1 + 1))) (congrArg Value.int (nI_add _ _)) ?_
    obtain ⟨ad_58, hR1, hA58, hZ58⟩ := hR.gS hW (o1 := x2) (t1 := (nI (tn a2))) (by simp [fset]) (hN.get (k := 0) rfl) (hR0.newN hN (k := 0) rfl) (by first | assumption | omega)
    refine xputC 8 hx hb hts hin7 tyX7 tyX7_ok nmX7 hown I hS hF hR.f0 rfl (by decide) (List.mem_of_getElem? (i := 3) rfl) rfl rfl rfl rfl rfl (Nat.le_of_ble_eq_true rfl) hR1 (hR.2.2.1 0 0 rfl) dX7_ship_58 (fun H locs hw I hR hF hS => ?_)
    have hR : RC E Pr (cNewS τ x2 (nI (tn a2))) ad_58 (fset fa 2 (cN τ 1) (some o41)) hw := hR
    have hW : CW (cNewS τ x2 (nI (tn a2))) := hW.newS (o1 := x2) (t1 := (nI (tn a2))) (by omega) (by first | assumption | omega)
    have wN58 := hW.1
    have wn58_0 : cN (cNewS τ x2 (nI (tn a2))) 0 = cN τ 0 := cNewS_N0 _ _ _
    have wn58_1 : cN (cNewS τ x2 (nI (tn a2))) 1 = cN τ 1 + 1 := cNewS_N _ _ _
    have wn58_2 : cN (cNewS τ x2 (nI (tn a2))) 2 = cN τ 2 := cNewS_N2 _ _ _
    have wn58_3 : cN (cNewS τ x2 (nI (tn a2))) 3 = cN τ 3 := cNewS_N3 _ _ _
    have wn58_4 : cN (cNewS τ x2 (nI (tn a2))) 4 = cN τ 4 := cNewS_N4 _ _ _
    have wn58_5 : cN (cNewS τ x2 (nI (tn a2))) 5 = cN τ 5 := cNewS_N5 _ _ _
    have z58_0 : ad 0 0 = ad_58 0 0 := (hA58 0 0 rfl).symm
    have z58_1 : ad 10 x2 = ad_58 10 x2 := (hA58 10 x2 (show x2 < cN τ 0 by first | assumption | omega)).symm
    try rw [z58_0] at hl
    try rw [z58_1] at hl
    refine lv_aload_n hx hb dX7_ship_61 rfl (lv_at hl 1 rfl) ?_
    refine xget (C := RX7) (T := TX7) (N := 14) 8 hx hb hts hin7 hown I hR.f0 rfl (by decide) (List.mem_of_getElem? (i := 3) rfl) rfl rfl dX7_ship_62 ?_
    refine lv_iconst (v := (nI 1)) hx hb dX7_ship_65 (by decide) ?_
    refine lv_isub hx hb dX7_ship_66 ?_
    exact xriX hx hb hr hlocks dX7_ship_67 I hS ⟨_, hG.symm, ad_58, (fset fa 2 (cN τ 1) (some o41)), rfl, hR, hF, hW, ((hA58 0 0 rfl).trans rfl)⟩ (Nat.le_of_ble_eq_true rfl) (Nat.le_of_ble_eq_true rfl)
  · skip
    rw [if_neg c_20] at hG
    exact xthS (ik := 57) (is := 76) (ic := 61) (X := "java/lang/IllegalStateException") (text := "there are 24 ships") hx hb hlst hown hts (by decide) (List.mem_of_getElem? (i := 1) rfl) (List.mem_of_getElem? (i := 2) rfl) hg61 (by decide) hT0 I hS (hl.1.trans hml.symm) dX7_ship_23 dX7_ship_26 dX7_ship_27 dX7_ship_29 dX7_ship_32 hout (Nat.le_of_ble_eq_true rfl) (Nat.le_of_ble_eq_true rfl) (Nat.le_of_ble_eq_true rfl) (Nat.le_of_ble_eq_true rfl) hlocks hG.symm (Nat.le_of_ble_eq_true rfl) (Nat.le_of_ble_eq_true rfl)

def fX7_enter (τ : CT) (a1 : Int32) : (String ⊕ CT) := (xbindE (fX7_shipOf τ a1) (fun x2 => (if cK τ 14 x2 = 0 then (if (cM τ 1 (cK τ 10 x2) ((cN τ 5) / 100)) = 0 then (if (nI (cN τ 2)) < (nI 60) then (Sum.inr (cSK (cNewE τ x2 (nI (cN τ 5))) 14 x2 (cN τ 2 + 1))) else (Sum.inl "java/lang/IllegalStateException")) else (Sum.inl "java/lang/IllegalStateException")) else (Sum.inl "java/lang/IllegalStateException"))))
set_option maxHeartbeats 4000000 in
set_option maxRecDepth 100000 in
theorem mX7_enter (l : Launch) (lo : Nat) (D : va_G) (E : Nat → ClassId) (h : XW) (hlst : l.stackTraces = false) (Pr : Nat → Prop) (τ : CT) (ad : Nat → Nat → Nat) (fa : Nat → Nat → Option Nat) (hR : RC E Pr τ ad fa h) (hW : CW τ) (a1 : Int32) : vx_Met l yX7_enter wsX7_enter ({ frames := 7, cells := 2, slots := 12, locals := 111 } : Room) (xP lo D E h [.ref (ad 0 0), .int a1]) (xQ lo D (fun v h' => ∃ x, (fX7_enter τ a1) = .inr x ∧ ∃ (ad' : Nat → Nat → Nat) (fa' : Nat → Nat → Option Nat), v = none ∧ RC E Pr (x) ad' fa' h' ∧ cF Pr h h' ∧ CW x ∧ ad' 0 0 = ad 0 0)) (xXp lo D h (fun En => (fX7_enter τ a1) = .inl En)) 2 12 (xA lo) := by
  obtain ⟨G, hG⟩ : ∃ G, fX7_enter τ a1 = G := ⟨_, rfl⟩
  rw [hG]
  unfold fX7_enter at hG
  refine vx_ofW (cc := cX7_enter) (maxL := 4) (ret := none) (by decide) rfl ?_
  intro p e s m args below meth c s₁ B hml hout hv
  obtain ⟨rfl, I⟩ := hv
  have hx := B.exec
  have hb := B.bytes
  have hr := B.returns
  have hts := atoms_spec (ws := wsX7_enter) B.pre
  have hown : s.vm.findClass RX7 = some m.cls := findClass_of_methodNamed B.named
  have hlocks := B.notSynchronized
  have hl := lv_entry ([.ref (ad 0 0), .int a1] : List Value) (n := 4) (Nat.le_of_ble_eq_true rfl)
  rw [lg_entry_eq]
  generalize (lg_sl ([.ref (ad 0 0), .int a1] : List Value) ++ List.replicate (4 - (lg_sl ([.ref (ad 0 0), .int a1] : List Value)).length) Slot.unset).toArray = ls at hl ⊢
  have hl : lv_has ls 4 [(0, .ref (ad 0 0)), (1, .int a1)] := hl
  have hin7 : ∀ w ∈ u_ws RX7 TX7 14, w ∈ wsX7_enter := fun _ h => List.mem_cons_of_mem _ (List.mem_append_left _ (List.mem_append_left _ (List.mem_append_left _ (List.mem_append_right _ (h)))))
  have hin3 : ∀ w ∈ u_ws RX3 TX3 5, w ∈ wsX7_enter := fun _ h => List.mem_cons_of_mem _ (List.mem_append_left _ (List.mem_append_left _ (List.mem_append_left _ (List.mem_append_left _ (List.mem_append_right _ (h))))))
  have hin5 : ∀ w ∈ u_ws RX5 TX5 4, w ∈ wsX7_enter := fun _ h => List.mem_cons_of_mem _ (List.mem_append_left _ (List.mem_append_left _ (List.mem_append_left _ (List.mem_append_left _ (List.mem_append_left _ (List.mem_append_right _ (h)))))))
  have hin1 : ∀ w ∈ u_ws RX1 TX1 3, w ∈ wsX7_enter := fun _ h => List.mem_cons_of_mem _ (List.mem_append_left _ (List.mem_append_left _ (List.mem_append_right _ (h))))
  have hg61 : ∀ w ∈ (vx_atS RX7 61 "java/lang/IllegalStateException" xnames).filter goodWord, w ∈ wsX7_enter := fun _ h => List.mem_cons_of_mem _ (List.mem_append_left _ (List.mem_append_right _ (h)))
  have hg334 : ∀ w ∈ (vx_atS RX7 334 "java/lang/IndexOutOfBoundsException" xnames).filter goodWord, w ∈ wsX7_enter := fun _ h => List.mem_cons_of_mem _ (List.mem_append_right _ (h))
  have hW0 := hW
  obtain ⟨w0, -⟩ := id hW
  have hS : va_S (xA lo) s.heap s.heap [] := va_S.rf
  have hT0 : XT lo s s.heap := I.2.2.2.2
  have hF : cF Pr h h := cF.rf
  refine lv_aload_n hx hb dX7_enter_0 rfl (lv_at hl 0 rfl) ?_
  refine lv_iload_n hx hb dX7_enter_1 rfl (lv_at hl 1 rfl) ?_
  refine xcvX (As := [.int a1]) (rest := []) ⟨hx, hb, hml, hown, hts⟩ (mX7_shipOf l lo D E h hlst Pr τ ad fa hR hW a1) (cwV 1 hts gX7_enter_X7_shipOf rfl rfl rfl (by decide +kernel) ⟨Nat.le_of_ble_eq_true rfl, Nat.le_of_ble_eq_true rfl⟩) I hS hR.f0 rfl rfl hl.1 rfl (Nat.le_of_ble_eq_true rfl) dX7_enter_2 ⟨Nat.le_of_ble_eq_true rfl, Nat.le_of_ble_eq_true rfl⟩ hout hlocks (fun En q => by rw [q] at hG; exact hG.symm) ⟨Nat.le_of_ble_eq_true rfl, Nat.le_of_ble_eq_true rfl⟩ (fun v9 hw9 H locs q9 I hS => ?_)
  obtain ⟨x2, e2, q1, q2⟩ := q9
  subst q1
  rw [q2] at I
  rw [e2] at hG
  have hG : (if cK τ 14 x2 = 0 then (if (cM τ 1 (cK τ 10 x2) ((cN τ 5) / 100)) = 0 then (if (nI (cN τ 2)) < (nI 60) then (Sum.inr (cSK (cNewE τ x2 (nI (cN τ 5))) 14 x2 (cN τ 2 + 1))) else (Sum.inl "java/lang/IllegalStateException")) else (Sum.inl "java/lang/IllegalStateException")) else (Sum.inl "java/lang/IllegalStateException")) = G := hG
  obtain ⟨l_x2, e_x2⟩ := okc_shipOf hW0 e2
  refine W.eq (g2 := F0 m 5 ls [.ref (ad 14 x2)]) rfl ?_
  refine lv_astore_n (lv' := [(2, .ref (ad 14 x2)), (0, .ref (ad 0 0)), (1, .int a1)]) hx hb dX7_enter_5 rfl hl (by decide) rfl (fun ls hl => ?_)
  refine lv_aload_n hx hb dX7_enter_6 rfl (lv_at hl 0 rfl) ?_
  refine xget (C := RX5) (T := TX5) (N := 4) 2 hx hb hts hin5 hown I (hR.f14 (show x2 < cN τ 1 by first | assumption | omega)) rfl (by decide) (List.mem_of_getElem? (i := 3) rfl) rfl rfl dX7_enter_7 ?_
  have b7_14 : cK τ 14 x2 ≤ cN τ 2 := hW.2.2.2.2.2.1 x2 (show x2 < cN τ 1 by first | assumption | omega)
  by_cases o_10 : cK τ 14 x2 = 0
  · skip
    rw [if_pos o_10] at hG
    refine xtop (y := .null) (by rw [if_pos o_10]; rfl) ?_
    refine lv_ifnullN (tgt := 23) hx hb dX7_enter_10 (by decide) ?_
    refine lv_aload_n hx hb dX7_enter_23 rfl (lv_at hl 0 rfl) ?_
    refine xget (C := RX5) (T := TX5) (N := 4) 0 hx hb hts hin5 hown I (hR.f14 (show x2 < cN τ 1 by first | assumption | omega)) rfl (by decide) (List.mem_of_getElem? (i := 4) rfl) rfl rfl dX7_enter_24 ?_
    have b24_10 : cK τ 10 x2 < cN τ 0 := hW.2.1 x2 (show x2 < cN τ 1 by first | assumption | omega)
    refine xget (C := RX3) (T := TX3) (N := 5) 1 hx hb hts hin3 hown I (hR.f10 (show cK τ 10 x2 < cN τ 0 by first | assumption | omega)) rfl (by decide) (List.mem_of_getElem? (i := 5) rfl) rfl rfl dX7_enter_27 ?_
    refine lv_aload_n hx hb dX7_enter_30 rfl (lv_at hl 1 rfl) ?_
    refine xget (C := RX7) (T := TX7) (N := 14) 12 hx hb hts hin7 hown I hR.f0 rfl (by decide) (List.mem_of_getElem? (i := 6) rfl) rfl rfl dX7_enter_31 ?_
    refine xcsR (As := [.int (nI (cN τ 5))]) (rest := [.ref (ad 12 (cK τ 10 x2))]) (v := some (.int (nI ((cN τ 5) / 100)))) ⟨hx, hb, hml, hown, hts⟩ (mX7_yearOfDay l lo D E h (cN τ 5) (by first | assumption | omega)) (va_cwS 1 hts gX7_enter_X7_yearOfDay rfl rfl rfl (by decide +kernel) ⟨Nat.le_of_ble_eq_true rfl, Nat.le_of_ble_eq_true rfl⟩) I rfl hl.1 rfl (Nat.le_of_ble_eq_true rfl) dX7_enter_34 ⟨Nat.le_of_ble_eq_true rfl, Nat.le_of_ble_eq_true rfl⟩ ?_
    refine W.eq (g2 := F0 m 37 ls [.int (nI ((cN τ 5) / 100)), .ref (ad 12 (cK τ 10 x2))]) rfl ?_
    refine xzald (i := ((cN τ 5) / 100)) (n := 20) hx hb I (hR.f12 (show cK τ 10 x2 < cN τ 0 by first | assumption | omega)) (by omega) (by decide) dX7_enter_37 ?_
    refine lv_if_eq (tgt := 51) hx hb dX7_enter_38 (by decide) (fun c_38 => ?_) (fun c_38 => ?_)
    · skip
      rw [if_pos c_38] at hG
      refine lv_aload_n hx hb dX7_enter_51 rfl (lv_at hl 1 rfl) ?_
      refine xget (C := RX7) (T := TX7) (N := 14) 9 hx hb hts hin7 hown I hR.f0 rfl (by decide) (List.mem_of_getElem? (i := 7) rfl) rfl rfl dX7_enter_52 ?_
      refine lv_bipush (v := (nI 60)) hx hb dX7_enter_55 (by decide) ?_
      refine lv_icmp_lt (tgt := 70) hx hb dX7_enter_57 (by decide) (fun c_57 => ?_) (fun c_57 => ?_)
      · skip
        rw [if_pos c_57] at hG
        have hlt2 : cN τ 2 < 60 := (nI_ltI (by omega) (by decide)).mp c_57
        refine xnewL (C := RX1) (T := TX1) (N := 3) (ci := 1) (fs := [.null, .int 0, .int 0]) hx hb hts hin1 tyX1 tyX1_ok hown (List.mem_of_getElem? (i := 8) rfl) (List.mem_of_getElem? (i := 9) rfl) (List.mem_of_getElem? (i := 10) rfl) I xNs.nil hS rfl (by decide) (Nat.le_of_ble_eq_true rfl) (Nat.le_of_ble_eq_true rfl) dX7_enter_70 (fun o70 H hw I hN hS => ?_)
        have hR0 := hR
        have hF0 := hF
        have hR := hR0.keepN hN
        have hF := hF0.keepN hR0.2.2.2.1 hN
        refine lv_dup hx hb dX7_enter_73 rfl ?_
        refine lv_aload_n hx hb dX7_enter_74 rfl (lv_at hl 0 rfl) ?_
        refine lv_aload_n hx hb dX7_enter_75 rfl (lv_at hl 1 rfl) ?_
        refine xget (C := RX7) (T := TX7) (N := 14) 12 hx hb hts hin7 hown I hR.f0 rfl (by decide) (List.mem_of_getElem? (i := 6) rfl) rfl rfl dX7_enter_76 ?_
        refine xciQ (As := [.ref (ad 14 x2), .int (nI (cN τ 5))]) (rest := [.ref o70]) ⟨hx, hb, hml, hown, hts⟩ (mX1_init l lo D E hw _ [] o70 (ad 14 x2) (nI (cN τ 5)) hN) (cwI 2 hts gX7_enter_X1_init rfl rfl rfl (hts _ (List.mem_of_getElem? (i := 10) rfl)) (hts _ (List.mem_of_getElem? (i := 24) rfl)) (hts _ (List.mem_of_getElem? (i := 25) rfl)) rfl (by decide +kernel) ⟨Nat.le_of_ble_eq_true rfl, Nat.le_of_ble_eq_true rfl⟩) I hS rfl hl.1 rfl (Nat.le_of_ble_eq_true rfl) dX7_enter_79 ⟨Nat.le_of_ble_eq_true rfl, Nat.le_of_ble_eq_true rfl⟩ (fun v9 hw H locs q9 I hS => ?_)
        obtain ⟨rfl, hN⟩ := q9
        have hR := hR0.keepN hN
        have hF := hF0.keepN hR0.2.2.2.1 hN
        refine W.eq (g2 := F0 m 82 ls [.ref o70]) rfl ?_
        refine lv_astore_n (lv' := [(3, .ref o70), (2, .ref (ad 14 x2)), (0, .ref (ad 0 0)), (1, .int a1)]) hx hb dX7_enter_82 rfl hl (by decide) rfl (fun ls hl => ?_)
        refine lv_aload_n hx hb dX7_enter_83 rfl (lv_at hl 2 rfl) ?_
        refine xget (C := RX7) (T := TX7) (N := 14) 2 hx hb hts hin7 hown I hR.f0 rfl (by decide) (List.mem_of_getElem? (i := 11) rfl) rfl rfl dX7_enter_84 ?_
        refine lv_aload_n hx hb dX7_enter_87 rfl (lv_at hl 2 rfl) ?_
        refine xget (C := RX7) (T := TX7) (N := 14) 9 hx hb hts hin7 hown I hR.f0 rfl (by decide) (List.mem_of_getElem? (i := 7) rfl) rfl rfl dX7_enter_88 ?_
        refine lv_aload_n hx hb dX7_enter_91 rfl (lv_at hl 0 rfl) ?_
        refine xaast (i := (cN τ 2)) (n := 60) (ci := 1) (r := (RX1, TX1, 3)) 5 hx hb I hS hR.f3 rfl (hN.get (k := 0) rfl) rfl (by omega) (by decide) dX7_enter_92 (fun H locs I hS => ?_)
        have hN := hN.both (q := ad 3 0) (.inl (E 5, 60, .inr (.inr (.inr (.inr (va_up (fa 3) (cN τ 2) (some o70))))))) (hR0.isS (K := 3) (i := 0) rfl)
        have hF0 := hF0.put (a := ad 3 0) (e := .inl (E 5, 60, .inr (.inr (.inr (.inr (va_up (fa 3) (cN τ 2) (some o70))))))) (hR0.2.2.1 3 0 rfl)
        have hR0 := hR0.store (k := 3) (j := (cN τ 2)) (some o70) (Or.inr (Or.inr (Or.inl ⟨rfl, Nat.le_refl _⟩))) (congrArg (fun f => (.inl (E 5, 60, .inr (.inr (.inr (.inr f)))) : va_E)) fset_up.symm)
        have hR := hR0.keepN hN
        have hF := hF0.keepN hR0.2.2.2.1 hN
        refine lv_aload_n hx hb dX7_enter_93 rfl (lv_at hl 2 rfl) ?_
        refine lv_dup hx hb dX7_enter_94 rfl ?_
        refine xget (C := RX7) (T := TX7) (N := 14) 9 hx hb hts hin7 hown I hR.f0 rfl (by decide) (List.mem_of_getElem? (i := 7) rfl) rfl rfl dX7_enter_95 ?_
        refine lv_iconst (v := (nI 1)) hx hb dX7_enter_98 (by decide) ?_
        refine lv_iadd hx hb dX7_enter_99 ?_
        refine xtop (y := .int (nI (cN τ 2 + 1))) (congrArg Value.int (nI_add _ _)) ?_
        obtain ⟨ad_100, hR1, hA100, hZ100⟩ := hR.gE hW (s1 := x2) (d1 := (nI (cN τ 5))) (by simp [fset]) (hN.get (k := 0) rfl) (hR0.newN hN (k := 0) rfl) (by first | assumption | omega)
        refine xputC 9 hx hb hts hin7 tyX7 tyX7_ok nmX7 hown I hS hF hR.f0 rfl (by decide) (List.mem_of_getElem? (i := 7) rfl) rfl rfl rfl rfl rfl (Nat.le_of_ble_eq_true rfl) hR1 (hR.2.2.1 0 0 rfl) dX7_enter_100 (fun H locs hw I hR hF hS => ?_)
        have hR : RC E Pr (cNewE τ x2 (nI (cN τ 5))) ad_100 (fset fa 3 (cN τ 2) (some o70)) hw := hR
        have hW : CW (cNewE τ x2 (nI (cN τ 5))) := hW.newE (s1 := x2) (d1 := (nI (cN τ 5))) (by omega) (by first | assumption | omega)
        have wN100 := hW.1
        have wn100_0 : cN (cNewE τ x2 (nI (cN τ 5))) 0 = cN τ 0 := cNewE_N0 _ _ _
        have wn100_1 : cN (cNewE τ x2 (nI (cN τ 5))) 1 = cN τ 1 := cNewE_N1 _ _ _
        have wn100_2 : cN (cNewE τ x2 (nI (cN τ 5))) 2 = cN τ 2 + 1 := cNewE_N _ _ _
        have wn100_3 : cN (cNewE τ x2 (nI (cN τ 5))) 3 = cN τ 3 := cNewE_N3 _ _ _
        have wn100_4 : cN (cNewE τ x2 (nI (cN τ 5))) 4 = cN τ 4 := cNewE_N4 _ _ _
        have wn100_5 : cN (cNewE τ x2 (nI (cN τ 5))) 5 = cN τ 5 := cNewE_N5 _ _ _
        have z100_0 : ad 0 0 = ad_100 0 0 := (hA100 0 0 rfl).symm
        have z100_1 : ad 14 x2 = ad_100 14 x2 := (hA100 14 x2 (show x2 < cN τ 1 by first | assumption | omega)).symm
        have y100 : o70 = ad_100 15 (cN τ 2) := hZ100.symm
        try rw [z100_0] at hl
        try rw [z100_1] at hl
        try rw [y100] at hl
        refine lv_aload_n hx hb dX7_enter_103 rfl (lv_at hl 1 rfl) ?_
        refine lv_aload_n hx hb dX7_enter_104 rfl (lv_at hl 0 rfl) ?_
        refine xputC 2 hx hb hts hin5 tyX5 tyX5_ok nmX5 hown I hS hF (hR.f14 (show x2 < cN (cNewE τ x2 (nI (cN τ 5))) 1 by first | assumption | omega)) rfl (by decide) (List.mem_of_getElem? (i := 3) rfl) rfl rfl rfl rfl rfl (Nat.le_of_ble_eq_true rfl) (hR.p14_2 (show x2 < cN (cNewE τ x2 (nI (cN τ 5))) 1 by first | assumption | omega) (cN τ 2 + 1)) (hR.2.2.1 14 x2 (show x2 < cN (cNewE τ x2 (nI (cN τ 5))) 1 by first | assumption | omega)) dX7_enter_105 (fun H locs hw I hR hF hS => ?_)
        have hR : RC E Pr (cSK (cNewE τ x2 (nI (cN τ 5))) 14 x2 (cN τ 2 + 1)) ad_100 (fset fa 3 (cN τ 2) (some o70)) hw := hR
        have hW : CW (cSK (cNewE τ x2 (nI (cN τ 5))) 14 x2 (cN τ 2 + 1)) := hW.s14 _ (by omega)
        exact xrvX hx hb hr hlocks dX7_enter_108 I hS ⟨_, hG.symm, ad_100, (fset fa 3 (cN τ 2) (some o70)), rfl, hR, hF, hW, ((hA100 0 0 rfl).trans rfl)⟩ (Nat.le_of_ble_eq_true rfl) (Nat.le_of_ble_eq_true rfl)
      · skip
        rw [if_neg c_57] at hG
        exact xthS (ik := 57) (is := 111) (ic := 61) (X := "java/lang/IllegalStateException") (text := "60 entries were told") hx hb hlst hown hts (by decide) (List.mem_of_getElem? (i := 1) rfl) (List.mem_of_getElem? (i := 2) rfl) hg61 (by decide) hT0 I hS (hl.1.trans hml.symm) dX7_enter_60 dX7_enter_63 dX7_enter_64 dX7_enter_66 dX7_enter_69 hout (Nat.le_of_ble_eq_true rfl) (Nat.le_of_ble_eq_true rfl) (Nat.le_of_ble_eq_true rfl) (Nat.le_of_ble_eq_true rfl) hlocks hG.symm (Nat.le_of_ble_eq_true rfl) (Nat.le_of_ble_eq_true rfl)
    · skip
      rw [if_neg c_38] at hG
      exact xthS (ik := 57) (is := 106) (ic := 61) (X := "java/lang/IllegalStateException") (text := "the member was released for this year") hx hb hlst hown hts (by decide) (List.mem_of_getElem? (i := 1) rfl) (List.mem_of_getElem? (i := 2) rfl) hg61 (by decide) hT0 I hS (hl.1.trans hml.symm) dX7_enter_41 dX7_enter_44 dX7_enter_45 dX7_enter_47 dX7_enter_50 hout (Nat.le_of_ble_eq_true rfl) (Nat.le_of_ble_eq_true rfl) (Nat.le_of_ble_eq_true rfl) (Nat.le_of_ble_eq_true rfl) hlocks hG.symm (Nat.le_of_ble_eq_true rfl) (Nat.le_of_ble_eq_true rfl)
  · skip
    rw [if_neg o_10] at hG
    refine xtop (y := .ref (ad 15 (cK τ 14 x2 - 1))) (by rw [if_neg o_10]; rfl) ?_
    refine lv_ifnull hx hb dX7_enter_10 ?_
    exact xthS (ik := 57) (is := 89) (ic := 61) (X := "java/lang/IllegalStateException") (text := "the ship is entered") hx hb hlst hown hts (by decide) (List.mem_of_getElem? (i := 1) rfl) (List.mem_of_getElem? (i := 2) rfl) hg61 (by decide) hT0 I hS (hl.1.trans hml.symm) dX7_enter_13 dX7_enter_16 dX7_enter_17 dX7_enter_19 dX7_enter_22 hout (Nat.le_of_ble_eq_true rfl) (Nat.le_of_ble_eq_true rfl) (Nat.le_of_ble_eq_true rfl) (Nat.le_of_ble_eq_true rfl) hlocks hG.symm (Nat.le_of_ble_eq_true rfl) (Nat.le_of_ble_eq_true rfl)

def fX7_newEvent (τ : CT) (d1 : Nat) : (Nat × CT) := (cN τ 4, (cNewV τ d1))
set_option maxHeartbeats 4000000 in
set_option maxRecDepth 100000 in
theorem mX7_newEvent (l : Launch) (lo : Nat) (D : va_G) (E : Nat → ClassId) (h : XW) (Pr : Nat → Prop) (τ : CT) (ad : Nat → Nat → Nat) (fa : Nat → Nat → Option Nat) (hR : RC E Pr τ ad fa h) (hW : CW τ) (d1 : Nat) (hd : d1 < 2000) (hj : cN τ 4 < 60) : Met l yX7_newEvent wsX7_newEvent ({ frames := 2, cells := 1, slots := 3, locals := 50 } : Room) (xP lo D E h [.ref (ad 0 0), .int (nI d1)]) (xQ lo D (fun v h' => ∃ (ad' : Nat → Nat → Nat) (fa' : Nat → Nat → Option Nat), v = some (.ref (ad' 17 ((fX7_newEvent τ d1)).1)) ∧ RC E Pr (((fX7_newEvent τ d1)).2) ad' fa' h' ∧ cF Pr h h' ∧ CW ((fX7_newEvent τ d1)).2 ∧ ∀ K i, clive τ K i → ad' K i = ad K i)) 1 3 (xA lo) := by
  obtain ⟨G, hG⟩ : ∃ G, fX7_newEvent τ d1 = G := ⟨_, rfl⟩
  rw [hG]
  unfold fX7_newEvent at hG
  refine Met.ofW (cc := cX7_newEvent) (maxL := 3) (ret := (some (.object "CallClub$Event"))) (by decide) rfl ?_
  intro p e s m args below meth c s₁ B hml hv
  obtain ⟨rfl, I⟩ := hv
  have hx := B.exec
  have hb := B.bytes
  have hr := B.returns
  have hts := atoms_spec (ws := wsX7_newEvent) B.pre
  have hown : s.vm.findClass RX7 = some m.cls := findClass_of_methodNamed B.named
  have hlocks := B.notSynchronized
  have hl := lv_entry ([.ref (ad 0 0), .int (nI d1)] : List Value) (n := 3) (Nat.le_of_ble_eq_true rfl)
  rw [lg_entry_eq]
  generalize (lg_sl ([.ref (ad 0 0), .int (nI d1)] : List Value) ++ List.replicate (3 - (lg_sl ([.ref (ad 0 0), .int (nI d1)] : List Value)).length) Slot.unset).toArray = ls at hl ⊢
  have hl : lv_has ls 3 [(0, .ref (ad 0 0)), (1, .int (nI d1))] := hl
  have hin7 : ∀ w ∈ u_ws RX7 TX7 14, w ∈ wsX7_newEvent := fun _ h => List.mem_cons_of_mem _ (List.mem_append_right _ (h))
  have hin2 : ∀ w ∈ u_ws RX2 TX2 3, w ∈ wsX7_newEvent := fun _ h => List.mem_cons_of_mem _ (List.mem_append_left _ (List.mem_append_right _ (h)))
  have hW0 := hW
  obtain ⟨w0, -⟩ := id hW
  have hS : va_S (xA lo) s.heap s.heap [] := va_S.rf
  have hT0 : XT lo s s.heap := I.2.2.2.2
  have hF : cF Pr h h := cF.rf
  refine xnewL (C := RX2) (T := TX2) (N := 3) (ci := 2) (fs := [.int 0, .int 0, .int 0]) hx hb hts hin2 tyX2 tyX2_ok hown (List.mem_of_getElem? (i := 1) rfl) (List.mem_of_getElem? (i := 2) rfl) (List.mem_of_getElem? (i := 3) rfl) I xNs.nil hS rfl (by decide) (Nat.le_of_ble_eq_true rfl) (Nat.le_of_ble_eq_true rfl) dX7_newEvent_0 (fun o0 H hw I hN hS => ?_)
  have hR0 := hR
  have hF0 := hF
  have hR := hR0.keepN hN
  have hF := hF0.keepN hR0.2.2.2.1 hN
  refine lv_dup hx hb dX7_newEvent_3 rfl ?_
  refine lv_aload_n hx hb dX7_newEvent_4 rfl (lv_at hl 0 rfl) ?_
  refine xget (C := RX7) (T := TX7) (N := 14) 11 hx hb hts hin7 hown I hR.f0 rfl (by decide) (List.mem_of_getElem? (i := 4) rfl) rfl rfl dX7_newEvent_5 ?_
  refine lv_iload_n hx hb dX7_newEvent_8 rfl (lv_at hl 1 rfl) ?_
  refine xciQ (As := [.int (nI (cN τ 4)), .int (nI d1)]) (rest := [.ref o0]) ⟨hx, hb, hml, hown, hts⟩ (mX2_init l lo D E hw _ [] o0 (nI (cN τ 4)) (nI d1) hN) (cwI 2 hts gX7_newEvent_X2_init rfl rfl rfl (hts _ (List.mem_of_getElem? (i := 3) rfl)) (hts _ (List.mem_of_getElem? (i := 6) rfl)) (hts _ (List.mem_of_getElem? (i := 7) rfl)) rfl (by decide +kernel) ⟨Nat.le_of_ble_eq_true rfl, Nat.le_of_ble_eq_true rfl⟩) I hS rfl hl.1 rfl (Nat.le_of_ble_eq_true rfl) dX7_newEvent_9 ⟨Nat.le_of_ble_eq_true rfl, Nat.le_of_ble_eq_true rfl⟩ (fun v9 hw H locs q9 I hS => ?_)
  obtain ⟨rfl, hN⟩ := q9
  have hR := hR0.keepN hN
  have hF := hF0.keepN hR0.2.2.2.1 hN
  refine W.eq (g2 := F0 m 12 ls [.ref o0]) rfl ?_
  refine lv_astore_n (lv' := [(2, .ref o0), (0, .ref (ad 0 0)), (1, .int (nI d1))]) hx hb dX7_newEvent_12 rfl hl (by decide) rfl (fun ls hl => ?_)
  refine lv_aload_n hx hb dX7_newEvent_13 rfl (lv_at hl 1 rfl) ?_
  refine xget (C := RX7) (T := TX7) (N := 14) 4 hx hb hts hin7 hown I hR.f0 rfl (by decide) (List.mem_of_getElem? (i := 5) rfl) rfl rfl dX7_newEvent_14 ?_
  refine lv_aload_n hx hb dX7_newEvent_17 rfl (lv_at hl 1 rfl) ?_
  refine xget (C := RX7) (T := TX7) (N := 14) 11 hx hb hts hin7 hown I hR.f0 rfl (by decide) (List.mem_of_getElem? (i := 4) rfl) rfl rfl dX7_newEvent_18 ?_
  refine lv_aload_n hx hb dX7_newEvent_21 rfl (lv_at hl 0 rfl) ?_
  refine xaast (i := (cN τ 4)) (n := 60) (ci := 2) (r := (RX2, TX2, 3)) 7 hx hb I hS hR.f5 rfl (hN.get (k := 0) rfl) rfl (by omega) (by decide) dX7_newEvent_22 (fun H locs I hS => ?_)
  have hN := hN.both (q := ad 5 0) (.inl (E 7, 60, .inr (.inr (.inr (.inr (va_up (fa 5) (cN τ 4) (some o0))))))) (hR0.isS (K := 5) (i := 0) rfl)
  have hF0 := hF0.put (a := ad 5 0) (e := .inl (E 7, 60, .inr (.inr (.inr (.inr (va_up (fa 5) (cN τ 4) (some o0))))))) (hR0.2.2.1 5 0 rfl)
  have hR0 := hR0.store (k := 5) (j := (cN τ 4)) (some o0) (Or.inr (Or.inr (Or.inr (Or.inr (⟨rfl, Nat.le_refl _⟩))))) (congrArg (fun f => (.inl (E 7, 60, .inr (.inr (.inr (.inr f)))) : va_E)) fset_up.symm)
  have hR := hR0.keepN hN
  have hF := hF0.keepN hR0.2.2.2.1 hN
  refine lv_aload_n hx hb dX7_newEvent_23 rfl (lv_at hl 1 rfl) ?_
  refine lv_dup hx hb dX7_newEvent_24 rfl ?_
  refine xget (C := RX7) (T := TX7) (N := 14) 11 hx hb hts hin7 hown I hR.f0 rfl (by decide) (List.mem_of_getElem? (i := 4) rfl) rfl rfl dX7_newEvent_25 ?_
  refine lv_iconst (v := (nI 1)) hx hb dX7_newEvent_28 (by decide) ?_
  refine lv_iadd hx hb dX7_newEvent_29 ?_
  refine xtop (y := .int (nI (cN τ 4 + 1))) (congrArg Value.int (nI_add _ _)) ?_
  obtain ⟨ad_30, hR1, hA30, hZ30⟩ := hR.gV hW (d1 := d1) (by simp [fset]) (hN.get (k := 0) rfl) (hR0.newN hN (k := 0) rfl)
  refine xputC 11 hx hb hts hin7 tyX7 tyX7_ok nmX7 hown I hS hF hR.f0 rfl (by decide) (List.mem_of_getElem? (i := 4) rfl) rfl rfl rfl rfl rfl (Nat.le_of_ble_eq_true rfl) hR1 (hR.2.2.1 0 0 rfl) dX7_newEvent_30 (fun H locs hw I hR hF hS => ?_)
  have hR : RC E Pr (cNewV τ d1) ad_30 (fset fa 5 (cN τ 4) (some o0)) hw := hR
  have hW : CW (cNewV τ d1) := hW.newV (d1 := d1) (by omega) (by omega)
  have wN30 := hW.1
  have wn30_0 : cN (cNewV τ d1) 0 = cN τ 0 := cNewV_N0 _ _
  have wn30_1 : cN (cNewV τ d1) 1 = cN τ 1 := cNewV_N1 _ _
  have wn30_2 : cN (cNewV τ d1) 2 = cN τ 2 := cNewV_N2 _ _
  have wn30_3 : cN (cNewV τ d1) 3 = cN τ 3 := cNewV_N3 _ _
  have wn30_4 : cN (cNewV τ d1) 4 = cN τ 4 + 1 := cNewV_N _ _
  have wn30_5 : cN (cNewV τ d1) 5 = cN τ 5 := cNewV_N5 _ _
  have z30_0 : ad 0 0 = ad_30 0 0 := (hA30 0 0 rfl).symm
  have y30 : o0 = ad_30 17 (cN τ 4) := hZ30.symm
  try rw [z30_0] at hl
  try rw [y30] at hl
  refine lv_aload_n hx hb dX7_newEvent_33 rfl (lv_at hl 0 rfl) ?_
  subst hG
  exact W.widen (Nat.le_of_ble_eq_true rfl) (Nat.le_of_ble_eq_true rfl) (xraQ hx hb hr ⟨_, rfl⟩ hlocks dX7_newEvent_34 I hS ⟨ad_30, (fset fa 5 (cN τ 4) (some o0)), rfl, hR, hF, hW, hA30⟩)

theorem newEvent_f (τ : CT) (d1 : Nat) : fX7_newEvent τ d1 = (cN τ 4, cNewV τ d1) := rfl
def fX7_newClaim (τ : CT) (s1 : Nat) (k1 : Nat) (x1 : Int32) (e1 : Nat) : (Int32 × CT) := (((nI (cN (cNewC τ s1 k1 x1 e1) 3)) - (nI 1)), (cSI (cNewC τ s1 k1 x1 e1) 30 e1 ((cI (cNewC τ s1 k1 x1 e1) 30 e1) + (nI 1))))
set_option maxHeartbeats 4000000 in
set_option maxRecDepth 100000 in
theorem mX7_newClaim (l : Launch) (lo : Nat) (D : va_G) (E : Nat → ClassId) (h : XW) (Pr : Nat → Prop) (τ : CT) (ad : Nat → Nat → Nat) (fa : Nat → Nat → Option Nat) (hR : RC E Pr τ ad fa h) (hW : CW τ) (s1 : Nat) (k1 : Nat) (x1 : Int32) (e1 : Nat) (h_s1 : s1 < cN τ 1) (h_e1 : e1 < cN τ 4) (hk : k1 < 4) (hj : cN τ 3 < 60) : Met l yX7_newClaim wsX7_newClaim ({ frames := 2, cells := 1, slots := 8, locals := 52 } : Room) (xP lo D E h [.ref (ad 0 0), .ref (ad 14 s1), .int (nI k1), .int x1, .ref (ad 17 e1)]) (xQ lo D (fun v h' => ∃ (ad' : Nat → Nat → Nat) (fa' : Nat → Nat → Option Nat), v = some (.int ((fX7_newClaim τ s1 k1 x1 e1)).1) ∧ RC E Pr (((fX7_newClaim τ s1 k1 x1 e1)).2) ad' fa' h' ∧ cF Pr h h' ∧ CW ((fX7_newClaim τ s1 k1 x1 e1)).2 ∧ ∀ K i, clive τ K i → ad' K i = ad K i)) 1 8 (xA lo) := by
  obtain ⟨G, hG⟩ : ∃ G, fX7_newClaim τ s1 k1 x1 e1 = G := ⟨_, rfl⟩
  rw [hG]
  unfold fX7_newClaim at hG
  refine Met.ofW (cc := cX7_newClaim) (maxL := 5) (ret := (some .int)) (by decide) rfl ?_
  intro p e s m args below meth c s₁ B hml hv
  obtain ⟨rfl, I⟩ := hv
  have hx := B.exec
  have hb := B.bytes
  have hr := B.returns
  have hts := atoms_spec (ws := wsX7_newClaim) B.pre
  have hown : s.vm.findClass RX7 = some m.cls := findClass_of_methodNamed B.named
  have hlocks := B.notSynchronized
  have hl := lv_entry ([.ref (ad 0 0), .ref (ad 14 s1), .int (nI k1), .int x1, .ref (ad 17 e1)] : List Value) (n := 5) (Nat.le_of_ble_eq_true rfl)
  rw [lg_entry_eq]
  generalize (lg_sl ([.ref (ad 0 0), .ref (ad 14 s1), .int (nI k1), .int x1, .ref (ad 17 e1)] : List Value) ++ List.replicate (5 - (lg_sl ([.ref (ad 0 0), .ref (ad 14 s1), .int (nI k1), .int x1, .ref (ad 17 e1)] : List Value)).length) Slot.unset).toArray = ls at hl ⊢
  have hl : lv_has ls 5 [(0, .ref (ad 0 0)), (1, .ref (ad 14 s1)), (2, .int (nI k1)), (3, .int x1), (4, .ref (ad 17 e1))] := hl
  have hin7 : ∀ w ∈ u_ws RX7 TX7 14, w ∈ wsX7_newClaim := fun _ h => List.mem_cons_of_mem _ (List.mem_append_left _ (List.mem_append_left _ (List.mem_append_right _ (h))))
  have hin0 : ∀ w ∈ u_ws RX0 TX0 8, w ∈ wsX7_newClaim := fun _ h => List.mem_cons_of_mem _ (List.mem_append_left _ (List.mem_append_right _ (h)))
  have hin2 : ∀ w ∈ u_ws RX2 TX2 3, w ∈ wsX7_newClaim := fun _ h => List.mem_cons_of_mem _ (List.mem_append_right _ (h))
  have hW0 := hW
  obtain ⟨w0, -⟩ := id hW
  have hS : va_S (xA lo) s.heap s.heap [] := va_S.rf
  have hT0 : XT lo s s.heap := I.2.2.2.2
  have hF : cF Pr h h := cF.rf
  refine lv_aload_n hx hb dX7_newClaim_0 rfl (lv_at hl 0 rfl) ?_
  refine xget (C := RX7) (T := TX7) (N := 14) 3 hx hb hts hin7 hown I hR.f0 rfl (by decide) (List.mem_of_getElem? (i := 1) rfl) rfl rfl dX7_newClaim_1 ?_
  refine lv_aload_n hx hb dX7_newClaim_4 rfl (lv_at hl 0 rfl) ?_
  refine xget (C := RX7) (T := TX7) (N := 14) 10 hx hb hts hin7 hown I hR.f0 rfl (by decide) (List.mem_of_getElem? (i := 2) rfl) rfl rfl dX7_newClaim_5 ?_
  refine xnewL (C := RX0) (T := TX0) (N := 8) (ci := 0) (fs := [.null, .int 0, .null, .int 0, .int 0, .int 0, .int 0, .int 0]) hx hb hts hin0 tyX0 tyX0_ok hown (List.mem_of_getElem? (i := 3) rfl) (List.mem_of_getElem? (i := 4) rfl) (List.mem_of_getElem? (i := 5) rfl) I xNs.nil hS rfl (by decide) (Nat.le_of_ble_eq_true rfl) (Nat.le_of_ble_eq_true rfl) dX7_newClaim_8 (fun o8 H hw I hN hS => ?_)
  have hR0 := hR
  have hF0 := hF
  have hR := hR0.keepN hN
  have hF := hF0.keepN hR0.2.2.2.1 hN
  refine lv_dup hx hb dX7_newClaim_11 rfl ?_
  refine lv_aload_n hx hb dX7_newClaim_12 rfl (lv_at hl 1 rfl) ?_
  refine lv_iload_n hx hb dX7_newClaim_13 rfl (lv_at hl 2 rfl) ?_
  refine lv_iload_n hx hb dX7_newClaim_14 rfl (lv_at hl 3 rfl) ?_
  refine lv_aload hx hb dX7_newClaim_15 (lv_at hl 4 rfl) ?_
  refine xciQ (As := [.ref (ad 14 s1), .int (nI k1), .int x1, .ref (ad 17 e1)]) (rest := [.ref o8, .int (nI (cN τ 3)), .ref (ad 4 0)]) ⟨hx, hb, hml, hown, hts⟩ (mX0_init l lo D E hw _ [] o8 (ad 14 s1) (ad 17 e1) (nI k1) x1 hN) (cwI 4 hts gX7_newClaim_X0_init rfl rfl rfl (hts _ (List.mem_of_getElem? (i := 5) rfl)) (hts _ (List.mem_of_getElem? (i := 7) rfl)) (hts _ (List.mem_of_getElem? (i := 8) rfl)) rfl (by decide +kernel) ⟨Nat.le_of_ble_eq_true rfl, Nat.le_of_ble_eq_true rfl⟩) I hS rfl hl.1 rfl (Nat.le_of_ble_eq_true rfl) dX7_newClaim_17 ⟨Nat.le_of_ble_eq_true rfl, Nat.le_of_ble_eq_true rfl⟩ (fun v9 hw H locs q9 I hS => ?_)
  obtain ⟨rfl, hN⟩ := q9
  have hR := hR0.keepN hN
  have hF := hF0.keepN hR0.2.2.2.1 hN
  refine W.eq (g2 := F0 m 20 ls [.ref o8, .int (nI (cN τ 3)), .ref (ad 4 0)]) rfl ?_
  refine xaast (i := (cN τ 3)) (n := 60) (ci := 0) (r := (RX0, TX0, 8)) 6 hx hb I hS hR.f4 rfl (hN.get (k := 0) rfl) rfl (by omega) (by decide) dX7_newClaim_20 (fun H locs I hS => ?_)
  have hN := hN.both (q := ad 4 0) (.inl (E 6, 60, .inr (.inr (.inr (.inr (va_up (fa 4) (cN τ 3) (some o8))))))) (hR0.isS (K := 4) (i := 0) rfl)
  have hF0 := hF0.put (a := ad 4 0) (e := .inl (E 6, 60, .inr (.inr (.inr (.inr (va_up (fa 4) (cN τ 3) (some o8))))))) (hR0.2.2.1 4 0 rfl)
  have hR0 := hR0.store (k := 4) (j := (cN τ 3)) (some o8) (Or.inr (Or.inr (Or.inr (Or.inl ⟨rfl, Nat.le_refl _⟩)))) (congrArg (fun f => (.inl (E 6, 60, .inr (.inr (.inr (.inr f)))) : va_E)) fset_up.symm)
  have hR := hR0.keepN hN
  have hF := hF0.keepN hR0.2.2.2.1 hN
  refine lv_aload_n hx hb dX7_newClaim_21 rfl (lv_at hl 0 rfl) ?_
  refine lv_dup hx hb dX7_newClaim_22 rfl ?_
  refine xget (C := RX7) (T := TX7) (N := 14) 10 hx hb hts hin7 hown I hR.f0 rfl (by decide) (List.mem_of_getElem? (i := 2) rfl) rfl rfl dX7_newClaim_23 ?_
  refine lv_iconst (v := (nI 1)) hx hb dX7_newClaim_26 (by decide) ?_
  refine lv_iadd hx hb dX7_newClaim_27 ?_
  refine xtop (y := .int (nI (cN τ 3 + 1))) (congrArg Value.int (nI_add _ _)) ?_
  obtain ⟨ad_28, hR1, hA28, hZ28⟩ := hR.gC hW (s1 := s1) (k1 := k1) (l1 := x1) (e1 := e1) (by simp [fset]) (hN.get (k := 0) rfl) (hR0.newN hN (k := 0) rfl) (by first | assumption | omega) (by first | assumption | omega)
  refine xputC 10 hx hb hts hin7 tyX7 tyX7_ok nmX7 hown I hS hF hR.f0 rfl (by decide) (List.mem_of_getElem? (i := 2) rfl) rfl rfl rfl rfl rfl (Nat.le_of_ble_eq_true rfl) hR1 (hR.2.2.1 0 0 rfl) dX7_newClaim_28 (fun H locs hw I hR hF hS => ?_)
  have hR : RC E Pr (cNewC τ s1 k1 x1 e1) ad_28 (fset fa 4 (cN τ 3) (some o8)) hw := hR
  have hW : CW (cNewC τ s1 k1 x1 e1) := hW.newC (s1 := s1) (k1 := k1) (l1 := x1) (e1 := e1) (by omega) (by first | assumption | omega) (by first | assumption | omega) (by first | assumption | omega)
  have wN28 := hW.1
  have wn28_0 : cN (cNewC τ s1 k1 x1 e1) 0 = cN τ 0 := cNewC_N0 _ _ _ _ _
  have wn28_1 : cN (cNewC τ s1 k1 x1 e1) 1 = cN τ 1 := cNewC_N1 _ _ _ _ _
  have wn28_2 : cN (cNewC τ s1 k1 x1 e1) 2 = cN τ 2 := cNewC_N2 _ _ _ _ _
  have wn28_3 : cN (cNewC τ s1 k1 x1 e1) 3 = cN τ 3 + 1 := cNewC_N _ _ _ _ _
  have wn28_4 : cN (cNewC τ s1 k1 x1 e1) 4 = cN τ 4 := cNewC_N4 _ _ _ _ _
  have wn28_5 : cN (cNewC τ s1 k1 x1 e1) 5 = cN τ 5 := cNewC_N5 _ _ _ _ _
  have z28_0 : ad 0 0 = ad_28 0 0 := (hA28 0 0 rfl).symm
  have z28_1 : ad 14 s1 = ad_28 14 s1 := (hA28 14 s1 (show s1 < cN τ 1 by first | assumption | omega)).symm
  have z28_2 : ad 17 e1 = ad_28 17 e1 := (hA28 17 e1 (show e1 < cN τ 4 by first | assumption | omega)).symm
  try rw [z28_0] at hl
  try rw [z28_1] at hl
  try rw [z28_2] at hl
  refine lv_aload hx hb dX7_newClaim_31 (lv_at hl 4 rfl) ?_
  refine lv_dup hx hb dX7_newClaim_33 rfl ?_
  refine xget (C := RX2) (T := TX2) (N := 3) 2 hx hb hts hin2 hown I (hR.f17 (show e1 < cN (cNewC τ s1 k1 x1 e1) 4 by first | assumption | omega)) rfl (by decide) (List.mem_of_getElem? (i := 6) rfl) rfl rfl dX7_newClaim_34 ?_
  refine lv_iconst (v := (nI 1)) hx hb dX7_newClaim_37 (by decide) ?_
  refine lv_iadd hx hb dX7_newClaim_38 ?_
  refine xputC 2 hx hb hts hin2 tyX2 tyX2_ok nmX2 hown I hS hF (hR.f17 (show e1 < cN (cNewC τ s1 k1 x1 e1) 4 by first | assumption | omega)) rfl (by decide) (List.mem_of_getElem? (i := 6) rfl) rfl rfl rfl rfl rfl (Nat.le_of_ble_eq_true rfl) (hR.p17_2 (show e1 < cN (cNewC τ s1 k1 x1 e1) 4 by first | assumption | omega) ((cI (cNewC τ s1 k1 x1 e1) 30 e1) + (nI 1))) (hR.2.2.1 17 e1 (show e1 < cN (cNewC τ s1 k1 x1 e1) 4 by first | assumption | omega)) dX7_newClaim_39 (fun H locs hw I hR hF hS => ?_)
  have hR : RC E Pr (cSI (cNewC τ s1 k1 x1 e1) 30 e1 ((cI (cNewC τ s1 k1 x1 e1) 30 e1) + (nI 1))) ad_28 (fset fa 4 (cN τ 3) (some o8)) hw := hR
  have hW : CW (cSI (cNewC τ s1 k1 x1 e1) 30 e1 ((cI (cNewC τ s1 k1 x1 e1) 30 e1) + (nI 1))) := hW.sI (t := 30) (by decide) e1 ((cI (cNewC τ s1 k1 x1 e1) 30 e1) + (nI 1))
  refine lv_aload_n hx hb dX7_newClaim_42 rfl (lv_at hl 0 rfl) ?_
  refine xget (C := RX7) (T := TX7) (N := 14) 10 hx hb hts hin7 hown I hR.f0 rfl (by decide) (List.mem_of_getElem? (i := 2) rfl) rfl rfl dX7_newClaim_43 ?_
  refine W.eq (g2 := F0 m 46 ls [.int (nI (cN (cNewC τ s1 k1 x1 e1) 3))]) rfl ?_
  refine lv_iconst (v := (nI 1)) hx hb dX7_newClaim_46 (by decide) ?_
  refine lv_isub hx hb dX7_newClaim_47 ?_
  subst hG
  exact W.widen (Nat.le_of_ble_eq_true rfl) (Nat.le_of_ble_eq_true rfl) (xriQ hx hb hr hlocks dX7_newClaim_48 I hS ⟨ad_28, (fset fa 4 (cN τ 3) (some o8)), rfl, hR, hF, hW, hA28⟩)

theorem okc_room {τ : CT} (hW : CW τ) {a : Nat} (ha : a < 100) {u : Unit} (h : fX7_checkRoomForClaims τ (nI a) = .inr u) : cN τ 3 + a ≤ 60 := by
  unfold fX7_checkRoomForClaims at h
  have w := hW.1
  by_cases h1 : nI (cN τ 3) + nI a ≤ nI 60
  · rw [nI_add, nI_leI (by omega) (by decide)] at h1; exact h1
  · rw [if_neg h1] at h; cases h
theorem newClaim_N (τ : CT) (s1 k1 : Nat) (x1 : Int32) (e1 t : Nat) (ht : t < 6 ∧ t ≠ 3) : cN (fX7_newClaim τ s1 k1 x1 e1).2 t = cN τ t := by
  show cK (cNewC τ s1 k1 x1 e1) t 0 = cK τ t 0
  rw [cNewC_K, if_neg (by omega), if_neg (by omega), if_neg (by omega), if_neg (by omega)]
theorem newClaim_N3 (τ : CT) (s1 k1 : Nat) (x1 : Int32) (e1 : Nat) : cN (fX7_newClaim τ s1 k1 x1 e1).2 3 = cN τ 3 + 1 := by
  show cK (cNewC τ s1 k1 x1 e1) 3 0 = _
  rw [cNewC_K]
  simp
def fX7_claim (τ : CT) (a1 : Int32) (a2 : Int32) (a3 : Int32) (a4 : Int32) (a5 : Int32) : (String ⊕ (Int32 × CT)) := (xbindE (fX7_shipOf τ a1) (fun x2 => (if a5 = (-1) then (xbindE (fX7_checkKind a2) (fun _ => (xbindE (fX7_checkRange a3 (nI 0) (nI (cN τ 5))) (fun _ => (xbindE (fX7_checkLoss a4) (fun _ => (xbindE (fX7_checkOpen τ ((tn a3) / 100)) (fun _ => (xbindE (fX7_checkRoomForClaims τ (nI 1)) (fun _ => (Sum.inr ((fX7_newClaim ((fX7_newEvent τ (tn a3)).2) x2 (tn a2) (nI (tn a4)) ((fX7_newEvent τ (tn a3)).1)).1, (fX7_newClaim ((fX7_newEvent τ (tn a3)).2) x2 (tn a2) (nI (tn a4)) ((fX7_newEvent τ (tn a3)).1)).2)))))))))))) else (xbindE (fX7_eventOf τ a5) (fun x20 => (xbindE (fX7_checkKind a2) (fun _ => (xbindE (fX7_checkRange a3 (nI 0) (nI (cN τ 5))) (fun _ => (xbindE (fX7_checkLoss a4) (fun _ => (if (nI (cK τ 16 x20)) = (nI (tn a3)) then (xbindE (fX7_checkOpen τ ((tn a3) / 100)) (fun _ => (xbindE (fX7_checkRoomForClaims τ (nI 1)) (fun _ => (Sum.inr ((fX7_newClaim τ x2 (tn a2) (nI (tn a4)) x20).1, (fX7_newClaim τ x2 (tn a2) (nI (tn a4)) x20).2)))))) else (Sum.inl "java/lang/IllegalArgumentException")))))))))))))
set_option maxHeartbeats 4000000 in
set_option maxRecDepth 100000 in
theorem mX7_claim (l : Launch) (lo : Nat) (D : va_G) (E : Nat → ClassId) (h : XW) (hlst : l.stackTraces = false) (Pr : Nat → Prop) (τ : CT) (ad : Nat → Nat → Nat) (fa : Nat → Nat → Option Nat) (hR : RC E Pr τ ad fa h) (hW : CW τ) (a1 : Int32) (a2 : Int32) (a3 : Int32) (a4 : Int32) (a5 : Int32) (hv : cN τ 4 ≤ cN τ 3) : vx_Met l yX7_claim wsX7_claim ({ frames := 8, cells := 8, slots := 50, locals := 132 } : Room) (xP lo D E h [.ref (ad 0 0), .int a1, .int a2, .int a3, .int a4, .int a5]) (xQ lo D (fun v h' => ∃ x, (fX7_claim τ a1 a2 a3 a4 a5) = .inr x ∧ ∃ (ad' : Nat → Nat → Nat) (fa' : Nat → Nat → Option Nat), v = some (.int x.1) ∧ RC E Pr (x.2) ad' fa' h' ∧ cF Pr h h' ∧ CW x.2 ∧ ad' 0 0 = ad 0 0)) (xXp lo D h (fun En => (fX7_claim τ a1 a2 a3 a4 a5) = .inl En)) 8 50 (xA lo) := by
  obtain ⟨G, hG⟩ : ∃ G, fX7_claim τ a1 a2 a3 a4 a5 = G := ⟨_, rfl⟩
  rw [hG]
  unfold fX7_claim at hG
  refine vx_ofW (cc := cX7_claim) (maxL := 8) (ret := (some .int)) (by decide) rfl ?_
  intro p e s m args below meth c s₁ B hml hout hv
  obtain ⟨rfl, I⟩ := hv
  have hx := B.exec
  have hb := B.bytes
  have hr := B.returns
  have hts := atoms_spec (ws := wsX7_claim) B.pre
  have hown : s.vm.findClass RX7 = some m.cls := findClass_of_methodNamed B.named
  have hlocks := B.notSynchronized
  have hl := lv_entry ([.ref (ad 0 0), .int a1, .int a2, .int a3, .int a4, .int a5] : List Value) (n := 8) (Nat.le_of_ble_eq_true rfl)
  rw [lg_entry_eq]
  generalize (lg_sl ([.ref (ad 0 0), .int a1, .int a2, .int a3, .int a4, .int a5] : List Value) ++ List.replicate (8 - (lg_sl ([.ref (ad 0 0), .int a1, .int a2, .int a3, .int a4, .int a5] : List Value)).length) Slot.unset).toArray = ls at hl ⊢
  have hl : lv_has ls 8 [(0, .ref (ad 0 0)), (1, .int a1), (2, .int a2), (3, .int a3), (4, .int a4), (5, .int a5)] := hl
  have hin7 : ∀ w ∈ u_ws RX7 TX7 14, w ∈ wsX7_claim := fun _ h => List.mem_cons_of_mem _ (List.mem_append_left _ (List.mem_append_left _ (List.mem_append_left _ (List.mem_append_left _ (List.mem_append_left _ (List.mem_append_left _ (List.mem_append_right _ (h))))))))
  have hin0 : ∀ w ∈ u_ws RX0 TX0 8, w ∈ wsX7_claim := fun _ h => List.mem_cons_of_mem _ (List.mem_append_left _ (List.mem_append_left _ (List.mem_append_left _ (List.mem_append_right _ (h)))))
  have hin2 : ∀ w ∈ u_ws RX2 TX2 3, w ∈ wsX7_claim := fun _ h => List.mem_cons_of_mem _ (List.mem_append_left _ (List.mem_append_left _ (List.mem_append_left _ (List.mem_append_left _ (List.mem_append_left _ (List.mem_append_right _ (h)))))))
  have hin6 : ∀ w ∈ u_ws RX6 TX6 7, w ∈ wsX7_claim := fun _ h => List.mem_cons_of_mem _ (List.mem_append_left _ (List.mem_append_left _ (List.mem_append_left _ (List.mem_append_left _ (List.mem_append_right _ (h))))))
  have hg61 : ∀ w ∈ (vx_atS RX7 61 "java/lang/IllegalStateException" xnames).filter goodWord, w ∈ wsX7_claim := fun _ h => List.mem_cons_of_mem _ (List.mem_append_right _ (h))
  have hg334 : ∀ w ∈ (vx_atS RX7 334 "java/lang/IndexOutOfBoundsException" xnames).filter goodWord, w ∈ wsX7_claim := fun _ h => List.mem_cons_of_mem _ (List.mem_append_left _ (List.mem_append_right _ (h)))
  have hg177 : ∀ w ∈ (vx_atS RX7 177 "java/lang/IllegalArgumentException" xnames).filter goodWord, w ∈ wsX7_claim := fun _ h => List.mem_cons_of_mem _ (List.mem_append_left _ (List.mem_append_left _ (List.mem_append_right _ (h))))
  have hW0 := hW
  obtain ⟨w0, -⟩ := id hW
  have hS : va_S (xA lo) s.heap s.heap [] := va_S.rf
  have hT0 : XT lo s s.heap := I.2.2.2.2
  have hF : cF Pr h h := cF.rf
  refine lv_aload_n hx hb dX7_claim_0 rfl (lv_at hl 0 rfl) ?_
  refine lv_iload_n hx hb dX7_claim_1 rfl (lv_at hl 1 rfl) ?_
  refine xcvX (As := [.int a1]) (rest := []) ⟨hx, hb, hml, hown, hts⟩ (mX7_shipOf l lo D E h hlst Pr τ ad fa hR hW a1) (cwV 1 hts gX7_claim_X7_shipOf rfl rfl rfl (by decide +kernel) ⟨Nat.le_of_ble_eq_true rfl, Nat.le_of_ble_eq_true rfl⟩) I hS hR.f0 rfl rfl hl.1 rfl (Nat.le_of_ble_eq_true rfl) dX7_claim_2 ⟨Nat.le_of_ble_eq_true rfl, Nat.le_of_ble_eq_true rfl⟩ hout hlocks (fun En q => by rw [q] at hG; exact hG.symm) ⟨Nat.le_of_ble_eq_true rfl, Nat.le_of_ble_eq_true rfl⟩ (fun v9 hw9 H locs q9 I hS => ?_)
  obtain ⟨x2, e2, q1, q2⟩ := q9
  subst q1
  rw [q2] at I
  rw [e2] at hG
  have hG : (if a5 = (-1) then (xbindE (fX7_checkKind a2) (fun _ => (xbindE (fX7_checkRange a3 (nI 0) (nI (cN τ 5))) (fun _ => (xbindE (fX7_checkLoss a4) (fun _ => (xbindE (fX7_checkOpen τ ((tn a3) / 100)) (fun _ => (xbindE (fX7_checkRoomForClaims τ (nI 1)) (fun _ => (Sum.inr ((fX7_newClaim ((fX7_newEvent τ (tn a3)).2) x2 (tn a2) (nI (tn a4)) ((fX7_newEvent τ (tn a3)).1)).1, (fX7_newClaim ((fX7_newEvent τ (tn a3)).2) x2 (tn a2) (nI (tn a4)) ((fX7_newEvent τ (tn a3)).1)).2)))))))))))) else (xbindE (fX7_eventOf τ a5) (fun x20 => (xbindE (fX7_checkKind a2) (fun _ => (xbindE (fX7_checkRange a3 (nI 0) (nI (cN τ 5))) (fun _ => (xbindE (fX7_checkLoss a4) (fun _ => (if (nI (cK τ 16 x20)) = (nI (tn a3)) then (xbindE (fX7_checkOpen τ ((tn a3) / 100)) (fun _ => (xbindE (fX7_checkRoomForClaims τ (nI 1)) (fun _ => (Sum.inr ((fX7_newClaim τ x2 (tn a2) (nI (tn a4)) x20).1, (fX7_newClaim τ x2 (tn a2) (nI (tn a4)) x20).2)))))) else (Sum.inl "java/lang/IllegalArgumentException"))))))))))) = G := hG
  obtain ⟨l_x2, e_x2⟩ := okc_shipOf hW0 e2
  refine W.eq (g2 := F0 m 5 ls [.ref (ad 14 x2)]) rfl ?_
  refine lv_astore (lv' := [(6, .ref (ad 14 x2)), (0, .ref (ad 0 0)), (1, .int a1), (2, .int a2), (3, .int a3), (4, .int a4), (5, .int a5)]) hx hb dX7_claim_5 hl (by decide) rfl (fun ls hl => ?_)
  refine lv_iload hx hb dX7_claim_7 (lv_at hl 6 rfl) ?_
  refine lv_iconst (v := (-1)) hx hb dX7_claim_9 (by decide) ?_
  refine lv_icmp_ne (tgt := 17) hx hb dX7_claim_10 (by decide) (fun c_10 => ?_) (fun c_10 => ?_)
  · skip
    rw [if_neg c_10] at hG
    refine lv_aload_n hx hb dX7_claim_17 rfl (lv_at hl 1 rfl) ?_
    refine lv_iload hx hb dX7_claim_18 (lv_at hl 6 rfl) ?_
    refine xcvX (As := [.int a5]) (rest := []) ⟨hx, hb, hml, hown, hts⟩ (mX7_eventOf l lo D E h hlst Pr τ ad fa hR hW a5) (cwV 1 hts gX7_claim_X7_eventOf rfl rfl rfl (by decide +kernel) ⟨Nat.le_of_ble_eq_true rfl, Nat.le_of_ble_eq_true rfl⟩) I hS hR.f0 rfl rfl hl.1 rfl (Nat.le_of_ble_eq_true rfl) dX7_claim_20 ⟨Nat.le_of_ble_eq_true rfl, Nat.le_of_ble_eq_true rfl⟩ hout hlocks (fun En q => by rw [q] at hG; exact hG.symm) ⟨Nat.le_of_ble_eq_true rfl, Nat.le_of_ble_eq_true rfl⟩ (fun v9 hw9 H locs q9 I hS => ?_)
    obtain ⟨x20, e20, q1, q2⟩ := q9
    subst q1
    rw [q2] at I
    rw [e20] at hG
    have hG : (xbindE (fX7_checkKind a2) (fun _ => (xbindE (fX7_checkRange a3 (nI 0) (nI (cN τ 5))) (fun _ => (xbindE (fX7_checkLoss a4) (fun _ => (if (nI (cK τ 16 x20)) = (nI (tn a3)) then (xbindE (fX7_checkOpen τ ((tn a3) / 100)) (fun _ => (xbindE (fX7_checkRoomForClaims τ (nI 1)) (fun _ => (Sum.inr ((fX7_newClaim τ x2 (tn a2) (nI (tn a4)) x20).1, (fX7_newClaim τ x2 (tn a2) (nI (tn a4)) x20).2)))))) else (Sum.inl "java/lang/IllegalArgumentException")))))))) = G := hG
    obtain ⟨l_x20, e_x20⟩ := okc_eventOf hW0 e20
    refine W.eq (g2 := F0 m 23 ls [.ref (ad 17 x20)]) rfl ?_
    refine lv_astore (lv' := [(7, .ref (ad 17 x20)), (6, .ref (ad 14 x2)), (0, .ref (ad 0 0)), (1, .int a1), (2, .int a2), (3, .int a3), (4, .int a4), (5, .int a5)]) hx hb dX7_claim_23 hl (by decide) rfl (fun ls hl => ?_)
    refine lv_iload_n hx hb dX7_claim_25 rfl (lv_at hl 4 rfl) ?_
    refine xcsX (As := [.int a2]) (rest := []) ⟨hx, hb, hml, hown, hts⟩ (mX7_checkKind l lo D E h hlst a2) (va_cwS 1 hts gX7_claim_X7_checkKind rfl rfl rfl (by decide +kernel) ⟨Nat.le_of_ble_eq_true rfl, Nat.le_of_ble_eq_true rfl⟩) I hS rfl hl.1 rfl (Nat.le_of_ble_eq_true rfl) dX7_claim_26 ⟨Nat.le_of_ble_eq_true rfl, Nat.le_of_ble_eq_true rfl⟩ hout hlocks (fun En q => by rw [q] at hG; exact hG.symm) ⟨Nat.le_of_ble_eq_true rfl, Nat.le_of_ble_eq_true rfl⟩ (fun v9 hw9 H locs q9 I hS => ?_)
    obtain ⟨x26, e26, q1, q2⟩ := q9
    subst q1
    rw [q2] at I
    rw [e26] at hG
    have hG : (xbindE (fX7_checkRange a3 (nI 0) (nI (cN τ 5))) (fun _ => (xbindE (fX7_checkLoss a4) (fun _ => (if (nI (cK τ 16 x20)) = (nI (tn a3)) then (xbindE (fX7_checkOpen τ ((tn a3) / 100)) (fun _ => (xbindE (fX7_checkRoomForClaims τ (nI 1)) (fun _ => (Sum.inr ((fX7_newClaim τ x2 (tn a2) (nI (tn a4)) x20).1, (fX7_newClaim τ x2 (tn a2) (nI (tn a4)) x20).2)))))) else (Sum.inl "java/lang/IllegalArgumentException")))))) = G := hG
    obtain ⟨e_a2, l_a2⟩ := okc_checkKind e26
    refine W.eq (g2 := F0 m 29 ls []) rfl ?_
    refine lv_iload_n hx hb dX7_claim_29 rfl (lv_at hl 5 rfl) ?_
    refine lv_iconst (v := (nI 0)) hx hb dX7_claim_30 (by decide) ?_
    refine lv_aload_n hx hb dX7_claim_31 rfl (lv_at hl 2 rfl) ?_
    refine xget (C := RX7) (T := TX7) (N := 14) 12 hx hb hts hin7 hown I hR.f0 rfl (by decide) (List.mem_of_getElem? (i := 3) rfl) rfl rfl dX7_claim_32 ?_
    refine xcsX (As := [.int a3, .int (nI 0), .int (nI (cN τ 5))]) (rest := []) ⟨hx, hb, hml, hown, hts⟩ (mX7_checkRange l lo D E h hlst a3 (nI 0) (nI (cN τ 5))) (va_cwS 3 hts gX7_claim_X7_checkRange rfl rfl rfl (by decide +kernel) ⟨Nat.le_of_ble_eq_true rfl, Nat.le_of_ble_eq_true rfl⟩) I hS rfl hl.1 rfl (Nat.le_of_ble_eq_true rfl) dX7_claim_35 ⟨Nat.le_of_ble_eq_true rfl, Nat.le_of_ble_eq_true rfl⟩ hout hlocks (fun En q => by rw [q] at hG; exact hG.symm) ⟨Nat.le_of_ble_eq_true rfl, Nat.le_of_ble_eq_true rfl⟩ (fun v9 hw9 H locs q9 I hS => ?_)
    obtain ⟨x35, e35, q1, q2⟩ := q9
    subst q1
    rw [q2] at I
    rw [e35] at hG
    have hG : (xbindE (fX7_checkLoss a4) (fun _ => (if (nI (cK τ 16 x20)) = (nI (tn a3)) then (xbindE (fX7_checkOpen τ ((tn a3) / 100)) (fun _ => (xbindE (fX7_checkRoomForClaims τ (nI 1)) (fun _ => (Sum.inr ((fX7_newClaim τ x2 (tn a2) (nI (tn a4)) x20).1, (fX7_newClaim τ x2 (tn a2) (nI (tn a4)) x20).2)))))) else (Sum.inl "java/lang/IllegalArgumentException")))) = G := hG
    obtain ⟨e_a3, l_a3⟩ := okc_checkRange (by omega) e35
    refine W.eq (g2 := F0 m 38 ls []) rfl ?_
    refine lv_iload hx hb dX7_claim_38 (lv_at hl 6 rfl) ?_
    refine xcsX (As := [.int a4]) (rest := []) ⟨hx, hb, hml, hown, hts⟩ (mX7_checkLoss l lo D E h hlst a4) (va_cwS 1 hts gX7_claim_X7_checkLoss rfl rfl rfl (by decide +kernel) ⟨Nat.le_of_ble_eq_true rfl, Nat.le_of_ble_eq_true rfl⟩) I hS rfl hl.1 rfl (Nat.le_of_ble_eq_true rfl) dX7_claim_40 ⟨Nat.le_of_ble_eq_true rfl, Nat.le_of_ble_eq_true rfl⟩ hout hlocks (fun En q => by rw [q] at hG; exact hG.symm) ⟨Nat.le_of_ble_eq_true rfl, Nat.le_of_ble_eq_true rfl⟩ (fun v9 hw9 H locs q9 I hS => ?_)
    obtain ⟨x40, e40, q1, q2⟩ := q9
    subst q1
    rw [q2] at I
    rw [e40] at hG
    have hG : (if (nI (cK τ 16 x20)) = (nI (tn a3)) then (xbindE (fX7_checkOpen τ ((tn a3) / 100)) (fun _ => (xbindE (fX7_checkRoomForClaims τ (nI 1)) (fun _ => (Sum.inr ((fX7_newClaim τ x2 (tn a2) (nI (tn a4)) x20).1, (fX7_newClaim τ x2 (tn a2) (nI (tn a4)) x20).2)))))) else (Sum.inl "java/lang/IllegalArgumentException")) = G := hG
    obtain ⟨e_a4, l_a4⟩ := okc_checkLoss e40
    refine W.eq (g2 := F0 m 43 ls []) rfl ?_
    refine lv_aload hx hb dX7_claim_43 (lv_at hl 0 rfl) ?_
    refine lv_ifnull hx hb dX7_claim_45 ?_
    refine lv_aload hx hb dX7_claim_48 (lv_at hl 0 rfl) ?_
    refine xget (C := RX2) (T := TX2) (N := 3) 1 hx hb hts hin2 hown I (hR.f17 (show x20 < cN τ 4 by first | assumption | omega)) rfl (by decide) (List.mem_of_getElem? (i := 4) rfl) rfl rfl dX7_claim_50 ?_
    have b50_16 : cK τ 16 x20 < 2000 := hW.2.2.2.2.2.2.2.1 x20 (show x20 < cN τ 4 by first | assumption | omega)
    refine lv_iload_n hx hb dX7_claim_53 rfl (lv_at hl 5 rfl) ?_
    refine xtop (y := .int (nI (tn a3))) (congrArg Value.int e_a3) ?_
    refine lv_icmp_eq (tgt := 67) hx hb dX7_claim_54 (by decide) (fun c_54 => ?_) (fun c_54 => ?_)
    · skip
      rw [if_pos c_54] at hG
      refine lv_aload_n hx hb dX7_claim_67 rfl (lv_at hl 2 rfl) ?_
      refine lv_iload_n hx hb dX7_claim_68 rfl (lv_at hl 5 rfl) ?_
      refine xtop (y := .int (nI (tn a3))) (congrArg Value.int e_a3) ?_
      refine xcsR (As := [.int (nI (tn a3))]) (rest := [.ref (ad 0 0)]) (v := some (.int (nI ((tn a3) / 100)))) ⟨hx, hb, hml, hown, hts⟩ (mX7_yearOfDay l lo D E h (tn a3) (by first | assumption | omega)) (va_cwS 1 hts gX7_claim_X7_yearOfDay rfl rfl rfl (by decide +kernel) ⟨Nat.le_of_ble_eq_true rfl, Nat.le_of_ble_eq_true rfl⟩) I rfl hl.1 rfl (Nat.le_of_ble_eq_true rfl) dX7_claim_69 ⟨Nat.le_of_ble_eq_true rfl, Nat.le_of_ble_eq_true rfl⟩ ?_
      refine W.eq (g2 := F0 m 72 ls [.int (nI ((tn a3) / 100)), .ref (ad 0 0)]) rfl ?_
      refine xcvX (As := [.int (nI ((tn a3) / 100))]) (rest := []) ⟨hx, hb, hml, hown, hts⟩ (mX7_checkOpen l lo D E h hlst Pr τ ad fa hR hW ((tn a3) / 100) (by first | assumption | omega)) (cwV 1 hts gX7_claim_X7_checkOpen rfl rfl rfl (by decide +kernel) ⟨Nat.le_of_ble_eq_true rfl, Nat.le_of_ble_eq_true rfl⟩) I hS hR.f0 rfl rfl hl.1 rfl (Nat.le_of_ble_eq_true rfl) dX7_claim_72 ⟨Nat.le_of_ble_eq_true rfl, Nat.le_of_ble_eq_true rfl⟩ hout hlocks (fun En q => by rw [q] at hG; exact hG.symm) ⟨Nat.le_of_ble_eq_true rfl, Nat.le_of_ble_eq_true rfl⟩ (fun v9 hw9 H locs q9 I hS => ?_)
      obtain ⟨x72, e72, q1, q2⟩ := q9
      subst q1
      rw [q2] at I
      rw [e72] at hG
      have hG : (xbindE (fX7_checkRoomForClaims τ (nI 1)) (fun _ => (Sum.inr ((fX7_newClaim τ x2 (tn a2) (nI (tn a4)) x20).1, (fX7_newClaim τ x2 (tn a2) (nI (tn a4)) x20).2)))) = G := hG
      refine W.eq (g2 := F0 m 75 ls []) rfl ?_
      refine lv_aload_n hx hb dX7_claim_75 rfl (lv_at hl 2 rfl) ?_
      refine lv_iconst (v := (nI 1)) hx hb dX7_claim_76 (by decide) ?_
      refine xcvX (As := [.int (nI 1)]) (rest := []) ⟨hx, hb, hml, hown, hts⟩ (mX7_checkRoomForClaims l lo D E h hlst Pr τ ad fa hR hW (nI 1)) (cwV 1 hts gX7_claim_X7_checkRoomForClaims rfl rfl rfl (by decide +kernel) ⟨Nat.le_of_ble_eq_true rfl, Nat.le_of_ble_eq_true rfl⟩) I hS hR.f0 rfl rfl hl.1 rfl (Nat.le_of_ble_eq_true rfl) dX7_claim_77 ⟨Nat.le_of_ble_eq_true rfl, Nat.le_of_ble_eq_true rfl⟩ hout hlocks (fun En q => by rw [q] at hG; exact hG.symm) ⟨Nat.le_of_ble_eq_true rfl, Nat.le_of_ble_eq_true rfl⟩ (fun v9 hw9 H locs q9 I hS => ?_)
      obtain ⟨x77, e77, q1, q2⟩ := q9
      subst q1
      rw [q2] at I
      rw [e77] at hG
      have hG : (Sum.inr ((fX7_newClaim τ x2 (tn a2) (nI (tn a4)) x20).1, (fX7_newClaim τ x2 (tn a2) (nI (tn a4)) x20).2)) = G := hG
      have rm_77 := okc_room hW0 (a := 1) (by decide) e77
      refine W.eq (g2 := F0 m 80 ls []) rfl ?_
      refine lv_aload hx hb dX7_claim_80 (lv_at hl 0 rfl) ?_
      refine lv_ifnonnull (tgt := 92) hx hb dX7_claim_82 (by decide) ?_
      refine lv_aload_n hx hb dX7_claim_92 rfl (lv_at hl 2 rfl) ?_
      refine lv_aload hx hb dX7_claim_93 (lv_at hl 1 rfl) ?_
      refine lv_iload_n hx hb dX7_claim_95 rfl (lv_at hl 4 rfl) ?_
      refine xtop (y := .int (nI (tn a2))) (congrArg Value.int e_a2) ?_
      refine lv_iload hx hb dX7_claim_96 (lv_at hl 6 rfl) ?_
      refine xtop (y := .int (nI (tn a4))) (congrArg Value.int e_a4) ?_
      refine lv_aload hx hb dX7_claim_98 (lv_at hl 0 rfl) ?_
      refine xcvQ (As := [.ref (ad 14 x2), .int (nI (tn a2)), .int (nI (tn a4)), .ref (ad 17 x20)]) (rest := []) ⟨hx, hb, hml, hown, hts⟩ (mX7_newClaim l lo D E h Pr τ ad fa hR hW x2 (tn a2) (nI (tn a4)) x20 (show x2 < cN τ 1 by first | assumption | omega) (show x20 < cN τ 4 by first | assumption | omega) (by first | assumption | omega) (by first | assumption | omega)) (cwV 4 hts gX7_claim_X7_newClaim rfl rfl rfl (by decide +kernel) ⟨Nat.le_of_ble_eq_true rfl, Nat.le_of_ble_eq_true rfl⟩) I hS hR.f0 rfl rfl hl.1 rfl (Nat.le_of_ble_eq_true rfl) dX7_claim_100 ⟨Nat.le_of_ble_eq_true rfl, Nat.le_of_ble_eq_true rfl⟩ (fun v9 hw H locs q9 I hS => ?_)
      obtain ⟨ad_100, fa_100, q1, hR, hF9, hW, hA100⟩ := q9
      subst q1
      have hF := cF.tr hF hF9
      have z100_0 : ad 0 0 = ad_100 0 0 := (hA100 0 0 rfl).symm
      have z100_1 : ad 14 x2 = ad_100 14 x2 := (hA100 14 x2 (show x2 < cN τ 1 by first | assumption | omega)).symm
      have z100_2 : ad 17 x20 = ad_100 17 x20 := (hA100 17 x20 (show x20 < cN τ 4 by first | assumption | omega)).symm
      try rw [z100_0] at hl
      try rw [z100_1] at hl
      try rw [z100_2] at hl
      refine W.eq (g2 := F0 m 103 ls [.int (fX7_newClaim τ x2 (tn a2) (nI (tn a4)) x20).1]) (by first | rfl | (simp only [z100_0, z100_1]; rfl) | (simp only [z100_0]; rfl)) ?_
      exact xriX hx hb hr hlocks dX7_claim_103 I hS ⟨_, hG.symm, ad_100, fa_100, rfl, hR, hF, hW, ((hA100 0 0 rfl).trans rfl)⟩ (Nat.le_of_ble_eq_true rfl) (Nat.le_of_ble_eq_true rfl)
    · skip
      rw [if_neg c_54] at hG
      exact xthS (ik := 173) (is := 175) (ic := 177) (X := "java/lang/IllegalArgumentException") (text := "the day is not that of the event") hx hb hlst hown hts (by decide) (List.mem_of_getElem? (i := 1) rfl) (List.mem_of_getElem? (i := 2) rfl) hg177 (by decide) hT0 I hS (hl.1.trans hml.symm) dX7_claim_57 dX7_claim_60 dX7_claim_61 dX7_claim_63 dX7_claim_66 hout (Nat.le_of_ble_eq_true rfl) (Nat.le_of_ble_eq_true rfl) (Nat.le_of_ble_eq_true rfl) (Nat.le_of_ble_eq_true rfl) hlocks hG.symm (Nat.le_of_ble_eq_true rfl) (Nat.le_of_ble_eq_true rfl)
  · skip
    rw [if_pos c_10] at hG
    refine lv_null hx hb dX7_claim_13 ?_
    refine lv_goto (tgt := 23) hx hb dX7_claim_14 (by decide) ?_
    refine lv_astoreN (lv' := [(7, .null), (6, .ref (ad 14 x2)), (0, .ref (ad 0 0)), (1, .int a1), (2, .int a2), (3, .int a3), (4, .int a4), (5, .int a5)]) hx hb dX7_claim_23 hl (by decide) rfl (fun ls hl => ?_)
    refine lv_iload_n hx hb dX7_claim_25 rfl (lv_at hl 4 rfl) ?_
    refine xcsX (As := [.int a2]) (rest := []) ⟨hx, hb, hml, hown, hts⟩ (mX7_checkKind l lo D E h hlst a2) (va_cwS 1 hts gX7_claim_X7_checkKind rfl rfl rfl (by decide +kernel) ⟨Nat.le_of_ble_eq_true rfl, Nat.le_of_ble_eq_true rfl⟩) I hS rfl hl.1 rfl (Nat.le_of_ble_eq_true rfl) dX7_claim_26 ⟨Nat.le_of_ble_eq_true rfl, Nat.le_of_ble_eq_true rfl⟩ hout hlocks (fun En q => by rw [q] at hG; exact hG.symm) ⟨Nat.le_of_ble_eq_true rfl, Nat.le_of_ble_eq_true rfl⟩ (fun v9 hw9 H locs q9 I hS => ?_)
    obtain ⟨x26, e26, q1, q2⟩ := q9
    subst q1
    rw [q2] at I
    rw [e26] at hG
    have hG : (xbindE (fX7_checkRange a3 (nI 0) (nI (cN τ 5))) (fun _ => (xbindE (fX7_checkLoss a4) (fun _ => (xbindE (fX7_checkOpen τ ((tn a3) / 100)) (fun _ => (xbindE (fX7_checkRoomForClaims τ (nI 1)) (fun _ => (Sum.inr ((fX7_newClaim ((fX7_newEvent τ (tn a3)).2) x2 (tn a2) (nI (tn a4)) ((fX7_newEvent τ (tn a3)).1)).1, (fX7_newClaim ((fX7_newEvent τ (tn a3)).2) x2 (tn a2) (nI (tn a4)) ((fX7_newEvent τ (tn a3)).1)).2)))))))))) = G := hG
    obtain ⟨e_a2, l_a2⟩ := okc_checkKind e26
    refine W.eq (g2 := F0 m 29 ls []) rfl ?_
    refine lv_iload_n hx hb dX7_claim_29 rfl (lv_at hl 5 rfl) ?_
    refine lv_iconst (v := (nI 0)) hx hb dX7_claim_30 (by decide) ?_
    refine lv_aload_n hx hb dX7_claim_31 rfl (lv_at hl 2 rfl) ?_
    refine xget (C := RX7) (T := TX7) (N := 14) 12 hx hb hts hin7 hown I hR.f0 rfl (by decide) (List.mem_of_getElem? (i := 3) rfl) rfl rfl dX7_claim_32 ?_
    refine xcsX (As := [.int a3, .int (nI 0), .int (nI (cN τ 5))]) (rest := []) ⟨hx, hb, hml, hown, hts⟩ (mX7_checkRange l lo D E h hlst a3 (nI 0) (nI (cN τ 5))) (va_cwS 3 hts gX7_claim_X7_checkRange rfl rfl rfl (by decide +kernel) ⟨Nat.le_of_ble_eq_true rfl, Nat.le_of_ble_eq_true rfl⟩) I hS rfl hl.1 rfl (Nat.le_of_ble_eq_true rfl) dX7_claim_35 ⟨Nat.le_of_ble_eq_true rfl, Nat.le_of_ble_eq_true rfl⟩ hout hlocks (fun En q => by rw [q] at hG; exact hG.symm) ⟨Nat.le_of_ble_eq_true rfl, Nat.le_of_ble_eq_true rfl⟩ (fun v9 hw9 H locs q9 I hS => ?_)
    obtain ⟨x35, e35, q1, q2⟩ := q9
    subst q1
    rw [q2] at I
    rw [e35] at hG
    have hG : (xbindE (fX7_checkLoss a4) (fun _ => (xbindE (fX7_checkOpen τ ((tn a3) / 100)) (fun _ => (xbindE (fX7_checkRoomForClaims τ (nI 1)) (fun _ => (Sum.inr ((fX7_newClaim ((fX7_newEvent τ (tn a3)).2) x2 (tn a2) (nI (tn a4)) ((fX7_newEvent τ (tn a3)).1)).1, (fX7_newClaim ((fX7_newEvent τ (tn a3)).2) x2 (tn a2) (nI (tn a4)) ((fX7_newEvent τ (tn a3)).1)).2)))))))) = G := hG
    obtain ⟨e_a3, l_a3⟩ := okc_checkRange (by omega) e35
    refine W.eq (g2 := F0 m 38 ls []) rfl ?_
    refine lv_iload hx hb dX7_claim_38 (lv_at hl 6 rfl) ?_
    refine xcsX (As := [.int a4]) (rest := []) ⟨hx, hb, hml, hown, hts⟩ (mX7_checkLoss l lo D E h hlst a4) (va_cwS 1 hts gX7_claim_X7_checkLoss rfl rfl rfl (by decide +kernel) ⟨Nat.le_of_ble_eq_true rfl, Nat.le_of_ble_eq_true rfl⟩) I hS rfl hl.1 rfl (Nat.le_of_ble_eq_true rfl) dX7_claim_40 ⟨Nat.le_of_ble_eq_true rfl, Nat.le_of_ble_eq_true rfl⟩ hout hlocks (fun En q => by rw [q] at hG; exact hG.symm) ⟨Nat.le_of_ble_eq_true rfl, Nat.le_of_ble_eq_true rfl⟩ (fun v9 hw9 H locs q9 I hS => ?_)
    obtain ⟨x40, e40, q1, q2⟩ := q9
    subst q1
    rw [q2] at I
    rw [e40] at hG
    have hG : (xbindE (fX7_checkOpen τ ((tn a3) / 100)) (fun _ => (xbindE (fX7_checkRoomForClaims τ (nI 1)) (fun _ => (Sum.inr ((fX7_newClaim ((fX7_newEvent τ (tn a3)).2) x2 (tn a2) (nI (tn a4)) ((fX7_newEvent τ (tn a3)).1)).1, (fX7_newClaim ((fX7_newEvent τ (tn a3)).2) x2 (tn a2) (nI (tn a4)) ((fX7_newEvent τ (tn a3)).1)).2)))))) = G := hG
    obtain ⟨e_a4, l_a4⟩ := okc_checkLoss e40
    refine W.eq (g2 := F0 m 43 ls []) rfl ?_
    refine lv_aloadN hx hb dX7_claim_43 (lv_at hl 0 rfl) ?_
    refine lv_ifnullN (tgt := 67) hx hb dX7_claim_45 (by decide) ?_
    refine lv_aload_n hx hb dX7_claim_67 rfl (lv_at hl 2 rfl) ?_
    refine lv_iload_n hx hb dX7_claim_68 rfl (lv_at hl 5 rfl) ?_
    refine xtop (y := .int (nI (tn a3))) (congrArg Value.int e_a3) ?_
    refine xcsR (As := [.int (nI (tn a3))]) (rest := [.ref (ad 0 0)]) (v := some (.int (nI ((tn a3) / 100)))) ⟨hx, hb, hml, hown, hts⟩ (mX7_yearOfDay l lo D E h (tn a3) (by first | assumption | omega)) (va_cwS 1 hts gX7_claim_X7_yearOfDay rfl rfl rfl (by decide +kernel) ⟨Nat.le_of_ble_eq_true rfl, Nat.le_of_ble_eq_true rfl⟩) I rfl hl.1 rfl (Nat.le_of_ble_eq_true rfl) dX7_claim_69 ⟨Nat.le_of_ble_eq_true rfl, Nat.le_of_ble_eq_true rfl⟩ ?_
    refine W.eq (g2 := F0 m 72 ls [.int (nI ((tn a3) / 100)), .ref (ad 0 0)]) rfl ?_
    refine xcvX (As := [.int (nI ((tn a3) / 100))]) (rest := []) ⟨hx, hb, hml, hown, hts⟩ (mX7_checkOpen l lo D E h hlst Pr τ ad fa hR hW ((tn a3) / 100) (by first | assumption | omega)) (cwV 1 hts gX7_claim_X7_checkOpen rfl rfl rfl (by decide +kernel) ⟨Nat.le_of_ble_eq_true rfl, Nat.le_of_ble_eq_true rfl⟩) I hS hR.f0 rfl rfl hl.1 rfl (Nat.le_of_ble_eq_true rfl) dX7_claim_72 ⟨Nat.le_of_ble_eq_true rfl, Nat.le_of_ble_eq_true rfl⟩ hout hlocks (fun En q => by rw [q] at hG; exact hG.symm) ⟨Nat.le_of_ble_eq_true rfl, Nat.le_of_ble_eq_true rfl⟩ (fun v9 hw9 H locs q9 I hS => ?_)
    obtain ⟨x72, e72, q1, q2⟩ := q9
    subst q1
    rw [q2] at I
    rw [e72] at hG
    have hG : (xbindE (fX7_checkRoomForClaims τ (nI 1)) (fun _ => (Sum.inr ((fX7_newClaim ((fX7_newEvent τ (tn a3)).2) x2 (tn a2) (nI (tn a4)) ((fX7_newEvent τ (tn a3)).1)).1, (fX7_newClaim ((fX7_newEvent τ (tn a3)).2) x2 (tn a2) (nI (tn a4)) ((fX7_newEvent τ (tn a3)).1)).2)))) = G := hG
    refine W.eq (g2 := F0 m 75 ls []) rfl ?_
    refine lv_aload_n hx hb dX7_claim_75 rfl (lv_at hl 2 rfl) ?_
    refine lv_iconst (v := (nI 1)) hx hb dX7_claim_76 (by decide) ?_
    refine xcvX (As := [.int (nI 1)]) (rest := []) ⟨hx, hb, hml, hown, hts⟩ (mX7_checkRoomForClaims l lo D E h hlst Pr τ ad fa hR hW (nI 1)) (cwV 1 hts gX7_claim_X7_checkRoomForClaims rfl rfl rfl (by decide +kernel) ⟨Nat.le_of_ble_eq_true rfl, Nat.le_of_ble_eq_true rfl⟩) I hS hR.f0 rfl rfl hl.1 rfl (Nat.le_of_ble_eq_true rfl) dX7_claim_77 ⟨Nat.le_of_ble_eq_true rfl, Nat.le_of_ble_eq_true rfl⟩ hout hlocks (fun En q => by rw [q] at hG; exact hG.symm) ⟨Nat.le_of_ble_eq_true rfl, Nat.le_of_ble_eq_true rfl⟩ (fun v9 hw9 H locs q9 I hS => ?_)
    obtain ⟨x77, e77, q1, q2⟩ := q9
    subst q1
    rw [q2] at I
    rw [e77] at hG
    have hG : (Sum.inr ((fX7_newClaim ((fX7_newEvent τ (tn a3)).2) x2 (tn a2) (nI (tn a4)) ((fX7_newEvent τ (tn a3)).1)).1, (fX7_newClaim ((fX7_newEvent τ (tn a3)).2) x2 (tn a2) (nI (tn a4)) ((fX7_newEvent τ (tn a3)).1)).2)) = G := hG
    have rm_77 := okc_room hW0 (a := 1) (by decide) e77
    refine W.eq (g2 := F0 m 80 ls []) rfl ?_
    refine lv_aloadN hx hb dX7_claim_80 (lv_at hl 0 rfl) ?_
    refine lv_ifnonnullN hx hb dX7_claim_82 ?_
    refine lv_aload_n hx hb dX7_claim_85 rfl (lv_at hl 2 rfl) ?_
    refine lv_iload_n hx hb dX7_claim_86 rfl (lv_at hl 5 rfl) ?_
    refine xtop (y := .int (nI (tn a3))) (congrArg Value.int e_a3) ?_
    refine xcvQ (As := [.int (nI (tn a3))]) (rest := []) ⟨hx, hb, hml, hown, hts⟩ (mX7_newEvent l lo D E h Pr τ ad fa hR hW (tn a3) (by first | assumption | omega) (by first | assumption | omega)) (cwV 1 hts gX7_claim_X7_newEvent rfl rfl rfl (by decide +kernel) ⟨Nat.le_of_ble_eq_true rfl, Nat.le_of_ble_eq_true rfl⟩) I hS hR.f0 rfl rfl hl.1 rfl (Nat.le_of_ble_eq_true rfl) dX7_claim_87 ⟨Nat.le_of_ble_eq_true rfl, Nat.le_of_ble_eq_true rfl⟩ (fun v9 hw H locs q9 I hS => ?_)
    obtain ⟨ad_87, fa_87, q1, hR, hF9, hW, hA87⟩ := q9
    subst q1
    have hF := cF.tr hF hF9
    have z87_0 : ad 0 0 = ad_87 0 0 := (hA87 0 0 rfl).symm
    have z87_1 : ad 14 x2 = ad_87 14 x2 := (hA87 14 x2 (show x2 < cN τ 1 by first | assumption | omega)).symm
    try rw [z87_0] at hl
    try rw [z87_1] at hl
    refine W.eq (g2 := F0 m 90 ls [.ref (ad_87 17 ((fX7_newEvent τ (tn a3)).1))]) (by first | rfl | (simp only [z87_0, z87_1]; rfl) | (simp only [z87_0]; rfl)) ?_
    have v1 : cN ((fX7_newEvent τ (tn a3)).2) 1 = cN τ 1 := cNewV_N1 τ _
    have v2 : cN ((fX7_newEvent τ (tn a3)).2) 2 = cN τ 2 := cNewV_N2 τ _
    have v3 : cN ((fX7_newEvent τ (tn a3)).2) 3 = cN τ 3 := cNewV_N3 τ _
    have v4 : (fX7_newEvent τ (tn a3)).1 < cN ((fX7_newEvent τ (tn a3)).2) 4 := by show cN τ 4 < cN (cNewV τ _) 4; rw [cNewV_N]; omega
    refine lv_astore (lv' := [(7, .ref (ad_87 17 ((fX7_newEvent τ (tn a3)).1))), (6, .ref (ad_87 14 x2)), (0, .ref (ad_87 0 0)), (1, .int a1), (2, .int a2), (3, .int a3), (4, .int a4), (5, .int a5)]) hx hb dX7_claim_90 hl (by decide) rfl (fun ls hl => ?_)
    refine lv_aload_n hx hb dX7_claim_92 rfl (lv_at hl 2 rfl) ?_
    refine lv_aload hx hb dX7_claim_93 (lv_at hl 1 rfl) ?_
    refine lv_iload_n hx hb dX7_claim_95 rfl (lv_at hl 4 rfl) ?_
    refine xtop (y := .int (nI (tn a2))) (congrArg Value.int e_a2) ?_
    refine lv_iload hx hb dX7_claim_96 (lv_at hl 6 rfl) ?_
    refine xtop (y := .int (nI (tn a4))) (congrArg Value.int e_a4) ?_
    refine lv_aload hx hb dX7_claim_98 (lv_at hl 0 rfl) ?_
    refine xcvQ (As := [.ref (ad_87 14 x2), .int (nI (tn a2)), .int (nI (tn a4)), .ref (ad_87 17 ((fX7_newEvent τ (tn a3)).1))]) (rest := []) ⟨hx, hb, hml, hown, hts⟩ (mX7_newClaim l lo D E hw Pr ((fX7_newEvent τ (tn a3)).2) ad_87 fa_87 hR hW x2 (tn a2) (nI (tn a4)) ((fX7_newEvent τ (tn a3)).1) (show x2 < cN (fX7_newEvent τ (tn a3)).2 1 by first | assumption | omega) (show (fX7_newEvent τ (tn a3)).1 < cN (fX7_newEvent τ (tn a3)).2 4 by first | assumption | omega) (by first | assumption | omega) (by first | assumption | omega)) (cwV 4 hts gX7_claim_X7_newClaim rfl rfl rfl (by decide +kernel) ⟨Nat.le_of_ble_eq_true rfl, Nat.le_of_ble_eq_true rfl⟩) I hS hR.f0 rfl rfl hl.1 rfl (Nat.le_of_ble_eq_true rfl) dX7_claim_100 ⟨Nat.le_of_ble_eq_true rfl, Nat.le_of_ble_eq_true rfl⟩ (fun v9 hw H locs q9 I hS => ?_)
    obtain ⟨ad_100, fa_100, q1, hR, hF9, hW, hA100⟩ := q9
    subst q1
    have hF := cF.tr hF hF9
    have z100_0 : ad_87 0 0 = ad_100 0 0 := (hA100 0 0 rfl).symm
    have z100_1 : ad_87 14 x2 = ad_100 14 x2 := (hA100 14 x2 (show x2 < cN (fX7_newEvent τ (tn a3)).2 1 by first | assumption | omega)).symm
    have z100_2 : ad_87 17 ((fX7_newEvent τ (tn a3)).1) = ad_100 17 ((fX7_newEvent τ (tn a3)).1) := (hA100 17 ((fX7_newEvent τ (tn a3)).1) (show (fX7_newEvent τ (tn a3)).1 < cN (fX7_newEvent τ (tn a3)).2 4 by first | assumption | omega)).symm
    try rw [z100_0] at hl
    try rw [z100_1] at hl
    try rw [z100_2] at hl
    refine W.eq (g2 := F0 m 103 ls [.int (fX7_newClaim ((fX7_newEvent τ (tn a3)).2) x2 (tn a2) (nI (tn a4)) ((fX7_newEvent τ (tn a3)).1)).1]) (by first | rfl | (simp only [z100_0, z100_1]; rfl) | (simp only [z100_0]; rfl)) ?_
    exact xriX hx hb hr hlocks dX7_claim_103 I hS ⟨_, hG.symm, ad_100, fa_100, rfl, hR, hF, hW, ((hA100 0 0 rfl).trans ((hA87 0 0 rfl).trans rfl))⟩ (Nat.le_of_ble_eq_true rfl) (Nat.le_of_ble_eq_true rfl)
