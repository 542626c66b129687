theorem okc_rng {x : Int32} {n : Nat} (hn : n < 2 ^ 31) (h1 : ¬ x < 0) (h2 : x < nI n) : x = nI (tn x) ∧ tn x < n := by
  obtain ⟨j, hj, rfl⟩ := nI_of h1
  rw [tn_nI hj]
  refine ⟨rfl, ?_⟩
  rw [nI_ltI hj hn] at h2
  exact h2

def fX7_memberOf (τ : CT) (a1 : Int32) : (String ⊕ Nat) := (if a1 < 0 then (Sum.inl "java/lang/IndexOutOfBoundsException") else (if a1 < (nI (cN τ 0)) then (Sum.inr (tn a1)) else (Sum.inl "java/lang/IndexOutOfBoundsException")))
set_option maxHeartbeats 4000000 in
set_option maxRecDepth 100000 in
theorem mX7_memberOf (l : Launch) (lo : Nat) (D : va_G) (E : Nat → ClassId) (h : XW) (hlst : l.stackTraces = false) (Pr : Nat → Prop) (τ : CT) (ad : Nat → Nat → Nat) (fa : Nat → Nat → Option Nat) (hR : RC E Pr τ ad fa h) (hW : CW τ) (a1 : Int32) : vx_Met l yX7_memberOf wsX7_memberOf ({ frames := 6, cells := 1, slots := 6, locals := 90 } : Room) (xP lo D E h [.ref (ad 0 0), .int a1]) (xQ lo D (fun v h' => ∃ x, (fX7_memberOf τ a1) = .inr x ∧ v = some (.ref (ad 10 x)) ∧ h' = h)) (xXp lo D h (fun En => (fX7_memberOf τ a1) = .inl En)) 1 6 (xA lo) := by
  obtain ⟨G, hG⟩ : ∃ G, fX7_memberOf τ a1 = G := ⟨_, rfl⟩
  rw [hG]
  unfold fX7_memberOf at hG
  refine vx_ofW (cc := cX7_memberOf) (maxL := 2) (ret := (some (.object "CallClub$Member"))) (by decide) rfl ?_
  intro p e s m args below meth c s₁ B hml hout hv
  obtain ⟨rfl, I⟩ := hv
  have hx := B.exec
  have hb := B.bytes
  have hr := B.returns
  have hts := atoms_spec (ws := wsX7_memberOf) B.pre
  have hown : s.vm.findClass RX7 = some m.cls := findClass_of_methodNamed B.named
  have hlocks := B.notSynchronized
  have hl := lv_entry ([.ref (ad 0 0), .int a1] : List Value) (n := 2) (Nat.le_of_ble_eq_true rfl)
  rw [lg_entry_eq]
  generalize (lg_sl ([.ref (ad 0 0), .int a1] : List Value) ++ List.replicate (2 - (lg_sl ([.ref (ad 0 0), .int a1] : List Value)).length) Slot.unset).toArray = ls at hl ⊢
  have hl : lv_has ls 2 [(0, .ref (ad 0 0)), (1, .int a1)] := hl
  have hin7 : ∀ w ∈ u_ws RX7 TX7 14, w ∈ wsX7_memberOf := fun _ h => List.mem_cons_of_mem _ (List.mem_append_left _ (List.mem_append_right _ (h)))
  have hg334 : ∀ w ∈ (vx_atS RX7 334 "java/lang/IndexOutOfBoundsException" xnames).filter goodWord, w ∈ wsX7_memberOf := fun _ h => List.mem_cons_of_mem _ (List.mem_append_right _ (h))
  have hW0 := hW
  obtain ⟨w0, -⟩ := id hW
  have hS : va_S (xA lo) s.heap s.heap [] := va_S.rf
  have hT0 : XT lo s s.heap := I.2.2.2.2
  have hF : cF Pr h h := cF.rf
  refine lv_iload_n hx hb dX7_memberOf_0 rfl (lv_at hl 1 rfl) ?_
  refine lv_if_lt (tgt := 12) hx hb dX7_memberOf_1 (by decide) (fun c_1 => ?_) (fun c_1 => ?_)
  · skip
    rw [if_pos c_1] at hG
    exact xthSW (ik := 330) (is := 332) (ic := 334) (X := "java/lang/IndexOutOfBoundsException") (text := "there is no such member") hx hb hlst hown hts (by decide) (List.mem_of_getElem? (i := 1) rfl) (List.mem_of_getElem? (i := 2) rfl) hg334 (by decide) hT0 I hS (hl.1.trans hml.symm) dX7_memberOf_12 dX7_memberOf_15 dX7_memberOf_16 dX7_memberOf_19 dX7_memberOf_22 hout (Nat.le_of_ble_eq_true rfl) (Nat.le_of_ble_eq_true rfl) (Nat.le_of_ble_eq_true rfl) (Nat.le_of_ble_eq_true rfl) hlocks hG.symm (Nat.le_of_ble_eq_true rfl) (Nat.le_of_ble_eq_true rfl)
  · skip
    rw [if_neg c_1] at hG
    refine lv_iload_n hx hb dX7_memberOf_4 rfl (lv_at hl 1 rfl) ?_
    refine lv_aload_n hx hb dX7_memberOf_5 rfl (lv_at hl 0 rfl) ?_
    refine xget (C := RX7) (T := TX7) (N := 14) 7 hx hb hts hin7 hown I hR.f0 rfl (by decide) (List.mem_of_getElem? (i := 3) rfl) rfl rfl dX7_memberOf_6 ?_
    refine lv_icmp_lt (tgt := 23) hx hb dX7_memberOf_9 (by decide) (fun c_9 => ?_) (fun c_9 => ?_)
    · skip
      rw [if_pos c_9] at hG
      obtain ⟨e_a1, l_a1⟩ := okc_rng (n := cN τ 0) (by omega) c_1 c_9
      refine lv_aload_n hx hb dX7_memberOf_23 rfl (lv_at hl 0 rfl) ?_
      refine xget (C := RX7) (T := TX7) (N := 14) 0 hx hb hts hin7 hown I hR.f0 rfl (by decide) (List.mem_of_getElem? (i := 4) rfl) rfl rfl dX7_memberOf_24 ?_
      refine lv_iload_n hx hb dX7_memberOf_27 rfl (lv_at hl 1 rfl) ?_
      refine xtop (y := .int (nI (tn a1))) (congrArg Value.int e_a1) ?_
      refine xaald (i := (tn a1)) (n := 12) 3 hx hb I rfl hR.f1 (by omega) (by decide) (hR.2.2.2.2.1 (tn a1) (show tn a1 < cN τ 0 by first | assumption | omega)) dX7_memberOf_28 ?_
      refine W.eq (g2 := F0 m 29 ls [.ref (ad 10 (tn a1))]) rfl ?_
      exact xraX hx hb hr ⟨_, rfl⟩ hlocks dX7_memberOf_29 I hS ⟨_, hG.symm, rfl, rfl⟩ (Nat.le_of_ble_eq_true rfl) (Nat.le_of_ble_eq_true rfl)
    · skip
      rw [if_neg c_9] at hG
      exact xthSW (ik := 330) (is := 332) (ic := 334) (X := "java/lang/IndexOutOfBoundsException") (text := "there is no such member") hx hb hlst hown hts (by decide) (List.mem_of_getElem? (i := 1) rfl) (List.mem_of_getElem? (i := 2) rfl) hg334 (by decide) hT0 I hS (hl.1.trans hml.symm) dX7_memberOf_12 dX7_memberOf_15 dX7_memberOf_16 dX7_memberOf_19 dX7_memberOf_22 hout (Nat.le_of_ble_eq_true rfl) (Nat.le_of_ble_eq_true rfl) (Nat.le_of_ble_eq_true rfl) (Nat.le_of_ble_eq_true rfl) hlocks hG.symm (Nat.le_of_ble_eq_true rfl) (Nat.le_of_ble_eq_true rfl)

theorem okc_memberOf {τ : CT} (hW : CW τ) {x : Int32} {j : Nat} (h : fX7_memberOf τ x = .inr j) : j < cN τ 0 ∧ x = nI j := by
  unfold fX7_memberOf at h
  have hb := hW.1
  by_cases h1 : x < 0
  · rw [if_pos h1] at h; cases h
  · by_cases h2 : x < nI (cN τ 0)
    · rw [if_neg h1, if_pos h2] at h
      obtain ⟨e1, e2⟩ := okc_rng (by omega) h1 h2
      cases h
      exact ⟨e2, e1⟩
    · rw [if_neg h1, if_neg h2] at h; cases h

def fX7_shipOf (τ : CT) (a1 : Int32) : (String ⊕ Nat) := (if a1 < 0 then (Sum.inl "java/lang/IndexOutOfBoundsException") else (if a1 < (nI (cN τ 1)) then (Sum.inr (tn a1)) else (Sum.inl "java/lang/IndexOutOfBoundsException")))
set_option maxHeartbeats 4000000 in
set_option maxRecDepth 100000 in
theorem mX7_shipOf (l : Launch) (lo : Nat) (D : va_G) (E : Nat → ClassId) (h : XW) (hlst : l.stackTraces = false) (Pr : Nat → Prop) (τ : CT) (ad : Nat → Nat → Nat) (fa : Nat → Nat → Option Nat) (hR : RC E Pr τ ad fa h) (hW : CW τ) (a1 : Int32) : vx_Met l yX7_shipOf wsX7_shipOf ({ frames := 6, cells := 1, slots := 6, locals := 90 } : Room) (xP lo D E h [.ref (ad 0 0), .int a1]) (xQ lo D (fun v h' => ∃ x, (fX7_shipOf τ a1) = .inr x ∧ v = some (.ref (ad 14 x)) ∧ h' = h)) (xXp lo D h (fun En => (fX7_shipOf τ a1) = .inl En)) 1 6 (xA lo) := by
  obtain ⟨G, hG⟩ : ∃ G, fX7_shipOf τ a1 = G := ⟨_, rfl⟩
  rw [hG]
  unfold fX7_shipOf at hG
  refine vx_ofW (cc := cX7_shipOf) (maxL := 2) (ret := (some (.object "CallClub$Ship"))) (by decide) rfl ?_
  intro p e s m args below meth c s₁ B hml hout hv
  obtain ⟨rfl, I⟩ := hv
  have hx := B.exec
  have hb := B.bytes
  have hr := B.returns
  have hts := atoms_spec (ws := wsX7_shipOf) B.pre
  have hown : s.vm.findClass RX7 = some m.cls := findClass_of_methodNamed B.named
  have hlocks := B.notSynchronized
  have hl := lv_entry ([.ref (ad 0 0), .int a1] : List Value) (n := 2) (Nat.le_of_ble_eq_true rfl)
  rw [lg_entry_eq]
  generalize (lg_sl ([.ref (ad 0 0), .int a1] : List Value) ++ List.replicate (2 - (lg_sl ([.ref (ad 0 0), .int a1] : List Value)).length) Slot.unset).toArray = ls at hl ⊢
  have hl : lv_has ls 2 [(0, .ref (ad 0 0)), (1, .int a1)] := hl
  have hin7 : ∀ w ∈ u_ws RX7 TX7 14, w ∈ wsX7_shipOf := fun _ h => List.mem_cons_of_mem _ (List.mem_append_left _ (List.mem_append_right _ (h)))
  have hg334 : ∀ w ∈ (vx_atS RX7 334 "java/lang/IndexOutOfBoundsException" xnames).filter goodWord, w ∈ wsX7_shipOf := fun _ h => List.mem_cons_of_mem _ (List.mem_append_right _ (h))
  have hW0 := hW
  obtain ⟨w0, -⟩ := id hW
  have hS : va_S (xA lo) s.heap s.heap [] := va_S.rf
  have hT0 : XT lo s s.heap := I.2.2.2.2
  have hF : cF Pr h h := cF.rf
  refine lv_iload_n hx hb dX7_shipOf_0 rfl (lv_at hl 1 rfl) ?_
  refine lv_if_lt (tgt := 12) hx hb dX7_shipOf_1 (by decide) (fun c_1 => ?_) (fun c_1 => ?_)
  · skip
    rw [if_pos c_1] at hG
    exact xthSW (ik := 330) (is := 335) (ic := 334) (X := "java/lang/IndexOutOfBoundsException") (text := "there is no such ship") hx hb hlst hown hts (by decide) (List.mem_of_getElem? (i := 1) rfl) (List.mem_of_getElem? (i := 2) rfl) hg334 (by decide) hT0 I hS (hl.1.trans hml.symm) dX7_shipOf_12 dX7_shipOf_15 dX7_shipOf_16 dX7_shipOf_19 dX7_shipOf_22 hout (Nat.le_of_ble_eq_true rfl) (Nat.le_of_ble_eq_true rfl) (Nat.le_of_ble_eq_true rfl) (Nat.le_of_ble_eq_true rfl) hlocks hG.symm (Nat.le_of_ble_eq_true rfl) (Nat.le_of_ble_eq_true rfl)
  · skip
    rw [if_neg c_1] at hG
    refine lv_iload_n hx hb dX7_shipOf_4 rfl (lv_at hl 1 rfl) ?_
    refine lv_aload_n hx hb dX7_shipOf_5 rfl (lv_at hl 0 rfl) ?_
    refine xget (C := RX7) (T := TX7) (N := 14) 8 hx hb hts hin7 hown I hR.f0 rfl (by decide) (List.mem_of_getElem? (i := 3) rfl) rfl rfl dX7_shipOf_6 ?_
    refine lv_icmp_lt (tgt := 23) hx hb dX7_shipOf_9 (by decide) (fun c_9 => ?_) (fun c_9 => ?_)
    · skip
      rw [if_pos c_9] at hG
      obtain ⟨e_a1, l_a1⟩ := okc_rng (n := cN τ 1) (by omega) c_1 c_9
      refine lv_aload_n hx hb dX7_shipOf_23 rfl (lv_at hl 0 rfl) ?_
      refine xget (C := RX7) (T := TX7) (N := 14) 1 hx hb hts hin7 hown I hR.f0 rfl (by decide) (List.mem_of_getElem? (i := 4) rfl) rfl rfl dX7_shipOf_24 ?_
      refine lv_iload_n hx hb dX7_shipOf_27 rfl (lv_at hl 1 rfl) ?_
      refine xtop (y := .int (nI (tn a1))) (congrArg Value.int e_a1) ?_
      refine xaald (i := (tn a1)) (n := 24) 4 hx hb I rfl hR.f2 (by omega) (by decide) (hR.2.2.2.2.2.1 (tn a1) (show tn a1 < cN τ 1 by first | assumption | omega)) dX7_shipOf_28 ?_
      refine W.eq (g2 := F0 m 29 ls [.ref (ad 14 (tn a1))]) rfl ?_
      exact xraX hx hb hr ⟨_, rfl⟩ hlocks dX7_shipOf_29 I hS ⟨_, hG.symm, rfl, rfl⟩ (Nat.le_of_ble_eq_true rfl) (Nat.le_of_ble_eq_true rfl)
    · skip
      rw [if_neg c_9] at hG
      exact xthSW (ik := 330) (is := 335) (ic := 334) (X := "java/lang/IndexOutOfBoundsException") (text := "there is no such ship") hx hb hlst hown hts (by decide) (List.mem_of_getElem? (i := 1) rfl) (List.mem_of_getElem? (i := 2) rfl) hg334 (by decide) hT0 I hS (hl.1.trans hml.symm) dX7_shipOf_12 dX7_shipOf_15 dX7_shipOf_16 dX7_shipOf_19 dX7_shipOf_22 hout (Nat.le_of_ble_eq_true rfl) (Nat.le_of_ble_eq_true rfl) (Nat.le_of_ble_eq_true rfl) (Nat.le_of_ble_eq_true rfl) hlocks hG.symm (Nat.le_of_ble_eq_true rfl) (Nat.le_of_ble_eq_true rfl)

theorem okc_shipOf {τ : CT} (hW : CW τ) {x : Int32} {j : Nat} (h : fX7_shipOf τ x = .inr j) : j < cN τ 1 ∧ x = nI j := by
  unfold fX7_shipOf at h
  have hb := hW.1
  by_cases h1 : x < 0
  · rw [if_pos h1] at h; cases h
  · by_cases h2 : x < nI (cN τ 1)
    · rw [if_neg h1, if_pos h2] at h
      obtain ⟨e1, e2⟩ := okc_rng (by omega) h1 h2
      cases h
      exact ⟨e2, e1⟩
    · rw [if_neg h1, if_neg h2] at h; cases h

def fX7_claimOf (τ : CT) (a1 : Int32) : (String ⊕ Nat) := (if a1 < 0 then (Sum.inl "java/lang/IndexOutOfBoundsException") else (if a1 < (nI (cN τ 3)) then (Sum.inr (tn a1)) else (Sum.inl "java/lang/IndexOutOfBoundsException")))
set_option maxHeartbeats 4000000 in
set_option maxRecDepth 100000 in
theorem mX7_claimOf (l : Launch) (lo : Nat) (D : va_G) (E : Nat → ClassId) (h : XW) (hlst : l.stackTraces = false) (Pr : Nat → Prop) (τ : CT) (ad : Nat → Nat → Nat) (fa : Nat → Nat → Option Nat) (hR : RC E Pr τ ad fa h) (hW : CW τ) (a1 : Int32) : vx_Met l yX7_claimOf wsX7_claimOf ({ frames := 6, cells := 1, slots := 6, locals := 90 } : Room) (xP lo D E h [.ref (ad 0 0), .int a1]) (xQ lo D (fun v h' => ∃ x, (fX7_claimOf τ a1) = .inr x ∧ v = some (.ref (ad 16 x)) ∧ h' = h)) (xXp lo D h (fun En => (fX7_claimOf τ a1) = .inl En)) 1 6 (xA lo) := by
  obtain ⟨G, hG⟩ : ∃ G, fX7_claimOf τ a1 = G := ⟨_, rfl⟩
  rw [hG]
  unfold fX7_claimOf at hG
  refine vx_ofW (cc := cX7_claimOf) (maxL := 2) (ret := (some (.object "CallClub$Claim"))) (by decide) rfl ?_
  intro p e s m args below meth c s₁ B hml hout hv
  obtain ⟨rfl, I⟩ := hv
  have hx := B.exec
  have hb := B.bytes
  have hr := B.returns
  have hts := atoms_spec (ws := wsX7_claimOf) B.pre
  have hown : s.vm.findClass RX7 = some m.cls := findClass_of_methodNamed B.named
  have hlocks := B.notSynchronized
  have hl := lv_entry ([.ref (ad 0 0), .int a1] : List Value) (n := 2) (Nat.le_of_ble_eq_true rfl)
  rw [lg_entry_eq]
  generalize (lg_sl ([.ref (ad 0 0), .int a1] : List Value) ++ List.replicate (2 - (lg_sl ([.ref (ad 0 0), .int a1] : List Value)).length) Slot.unset).toArray = ls at hl ⊢
  have hl : lv_has ls 2 [(0, .ref (ad 0 0)), (1, .int a1)] := hl
  have hin7 : ∀ w ∈ u_ws RX7 TX7 14, w ∈ wsX7_claimOf := fun _ h => List.mem_cons_of_mem _ (List.mem_append_left _ (List.mem_append_right _ (h)))
  have hg334 : ∀ w ∈ (vx_atS RX7 334 "java/lang/IndexOutOfBoundsException" xnames).filter goodWord, w ∈ wsX7_claimOf := fun _ h => List.mem_cons_of_mem _ (List.mem_append_right _ (h))
  have hW0 := hW
  obtain ⟨w0, -⟩ := id hW
  have hS : va_S (xA lo) s.heap s.heap [] := va_S.rf
  have hT0 : XT lo s s.heap := I.2.2.2.2
  have hF : cF Pr h h := cF.rf
  refine lv_iload_n hx hb dX7_claimOf_0 rfl (lv_at hl 1 rfl) ?_
  refine lv_if_lt (tgt := 12) hx hb dX7_claimOf_1 (by decide) (fun c_1 => ?_) (fun c_1 => ?_)
  · skip
    rw [if_pos c_1] at hG
    exact xthSW (ik := 330) (is := 337) (ic := 334) (X := "java/lang/IndexOutOfBoundsException") (text := "there is no such claim") hx hb hlst hown hts (by decide) (List.mem_of_getElem? (i := 1) rfl) (List.mem_of_getElem? (i := 2) rfl) hg334 (by decide) hT0 I hS (hl.1.trans hml.symm) dX7_claimOf_12 dX7_claimOf_15 dX7_claimOf_16 dX7_claimOf_19 dX7_claimOf_22 hout (Nat.le_of_ble_eq_true rfl) (Nat.le_of_ble_eq_true rfl) (Nat.le_of_ble_eq_true rfl) (Nat.le_of_ble_eq_true rfl) hlocks hG.symm (Nat.le_of_ble_eq_true rfl) (Nat.le_of_ble_eq_true rfl)
  · skip
    rw [if_neg c_1] at hG
    refine lv_iload_n hx hb dX7_claimOf_4 rfl (lv_at hl 1 rfl) ?_
    refine lv_aload_n hx hb dX7_claimOf_5 rfl (lv_at hl 0 rfl) ?_
    refine xget (C := RX7) (T := TX7) (N := 14) 10 hx hb hts hin7 hown I hR.f0 rfl (by decide) (List.mem_of_getElem? (i := 3) rfl) rfl rfl dX7_claimOf_6 ?_
    refine lv_icmp_lt (tgt := 23) hx hb dX7_claimOf_9 (by decide) (fun c_9 => ?_) (fun c_9 => ?_)
    · skip
      rw [if_pos c_9] at hG
      obtain ⟨e_a1, l_a1⟩ := okc_rng (n := cN τ 3) (by omega) c_1 c_9
      refine lv_aload_n hx hb dX7_claimOf_23 rfl (lv_at hl 0 rfl) ?_
      refine xget (C := RX7) (T := TX7) (N := 14) 3 hx hb hts hin7 hown I hR.f0 rfl (by decide) (List.mem_of_getElem? (i := 4) rfl) rfl rfl dX7_claimOf_24 ?_
      refine lv_iload_n hx hb dX7_claimOf_27 rfl (lv_at hl 1 rfl) ?_
      refine xtop (y := .int (nI (tn a1))) (congrArg Value.int e_a1) ?_
      refine xaald (i := (tn a1)) (n := 60) 6 hx hb I rfl hR.f4 (by omega) (by decide) (hR.2.2.2.2.2.2.2.1 (tn a1) (show tn a1 < cN τ 3 by first | assumption | omega)) dX7_claimOf_28 ?_
      refine W.eq (g2 := F0 m 29 ls [.ref (ad 16 (tn a1))]) rfl ?_
      exact xraX hx hb hr ⟨_, rfl⟩ hlocks dX7_claimOf_29 I hS ⟨_, hG.symm, rfl, rfl⟩ (Nat.le_of_ble_eq_true rfl) (Nat.le_of_ble_eq_true rfl)
    · skip
      rw [if_neg c_9] at hG
      exact xthSW (ik := 330) (is := 337) (ic := 334) (X := "java/lang/IndexOutOfBoundsException") (text := "there is no such claim") hx hb hlst hown hts (by decide) (List.mem_of_getElem? (i := 1) rfl) (List.mem_of_getElem? (i := 2) rfl) hg334 (by decide) hT0 I hS (hl.1.trans hml.symm) dX7_claimOf_12 dX7_claimOf_15 dX7_claimOf_16 dX7_claimOf_19 dX7_claimOf_22 hout (Nat.le_of_ble_eq_true rfl) (Nat.le_of_ble_eq_true rfl) (Nat.le_of_ble_eq_true rfl) (Nat.le_of_ble_eq_true rfl) hlocks hG.symm (Nat.le_of_ble_eq_true rfl) (Nat.le_of_ble_eq_true rfl)

theorem okc_claimOf {τ : CT} (hW : CW τ) {x : Int32} {j : Nat} (h : fX7_claimOf τ x = .inr j) : j < cN τ 3 ∧ x = nI j := by
  unfold fX7_claimOf at h
  have hb := hW.1
  by_cases h1 : x < 0
  · rw [if_pos h1] at h; cases h
  · by_cases h2 : x < nI (cN τ 3)
    · rw [if_neg h1, if_pos h2] at h
      obtain ⟨e1, e2⟩ := okc_rng (by omega) h1 h2
      cases h
      exact ⟨e2, e1⟩
    · rw [if_neg h1, if_neg h2] at h; cases h

def fX7_eventOf (τ : CT) (a1 : Int32) : (String ⊕ Nat) := (if a1 < 0 then (Sum.inl "java/lang/IndexOutOfBoundsException") else (if a1 < (nI (cN τ 4)) then (Sum.inr (tn a1)) else (Sum.inl "java/lang/IndexOutOfBoundsException")))
set_option maxHeartbeats 4000000 in
set_option maxRecDepth 100000 in
theorem mX7_eventOf (l : Launch) (lo : Nat) (D : va_G) (E : Nat → ClassId) (h : XW) (hlst : l.stackTraces = false) (Pr : Nat → Prop) (τ : CT) (ad : Nat → Nat → Nat) (fa : Nat → Nat → Option Nat) (hR : RC E Pr τ ad fa h) (hW : CW τ) (a1 : Int32) : vx_Met l yX7_eventOf wsX7_eventOf ({ frames := 6, cells := 1, slots := 6, locals := 90 } : Room) (xP lo D E h [.ref (ad 0 0), .int a1]) (xQ lo D (fun v h' => ∃ x, (fX7_eventOf τ a1) = .inr x ∧ v = some (.ref (ad 17 x)) ∧ h' = h)) (xXp lo D h (fun En => (fX7_eventOf τ a1) = .inl En)) 1 6 (xA lo) := by
  obtain ⟨G, hG⟩ : ∃ G, fX7_eventOf τ a1 = G := ⟨_, rfl⟩
  rw [hG]
  unfold fX7_eventOf at hG
  refine vx_ofW (cc := cX7_eventOf) (maxL := 2) (ret := (some (.object "CallClub$Event"))) (by decide) rfl ?_
  intro p e s m args below meth c s₁ B hml hout hv
  obtain ⟨rfl, I⟩ := hv
  have hx := B.exec
  have hb := B.bytes
  have hr := B.returns
  have hts := atoms_spec (ws := wsX7_eventOf) B.pre
  have hown : s.vm.findClass RX7 = some m.cls := findClass_of_methodNamed B.named
  have hlocks := B.notSynchronized
  have hl := lv_entry ([.ref (ad 0 0), .int a1] : List Value) (n := 2) (Nat.le_of_ble_eq_true rfl)
  rw [lg_entry_eq]
  generalize (lg_sl ([.ref (ad 0 0), .int a1] : List Value) ++ List.replicate (2 - (lg_sl ([.ref (ad 0 0), .int a1] : List Value)).length) Slot.unset).toArray = ls at hl ⊢
  have hl : lv_has ls 2 [(0, .ref (ad 0 0)), (1, .int a1)] := hl
  have hin7 : ∀ w ∈ u_ws RX7 TX7 14, w ∈ wsX7_eventOf := fun _ h => List.mem_cons_of_mem _ (List.mem_append_left _ (List.mem_append_right _ (h)))
  have hg334 : ∀ w ∈ (vx_atS RX7 334 "java/lang/IndexOutOfBoundsException" xnames).filter goodWord, w ∈ wsX7_eventOf := fun _ h => List.mem_cons_of_mem _ (List.mem_append_right _ (h))
  have hW0 := hW
  obtain ⟨w0, -⟩ := id hW
  have hS : va_S (xA lo) s.heap s.heap [] := va_S.rf
  have hT0 : XT lo s s.heap := I.2.2.2.2
  have hF : cF Pr h h := cF.rf
  refine lv_iload_n hx hb dX7_eventOf_0 rfl (lv_at hl 1 rfl) ?_
  refine lv_if_lt (tgt := 12) hx hb dX7_eventOf_1 (by decide) (fun c_1 => ?_) (fun c_1 => ?_)
  · skip
    rw [if_pos c_1] at hG
    exact xthSW (ik := 330) (is := 342) (ic := 334) (X := "java/lang/IndexOutOfBoundsException") (text := "there is no such event") hx hb hlst hown hts (by decide) (List.mem_of_getElem? (i := 1) rfl) (List.mem_of_getElem? (i := 2) rfl) hg334 (by decide) hT0 I hS (hl.1.trans hml.symm) dX7_eventOf_12 dX7_eventOf_15 dX7_eventOf_16 dX7_eventOf_19 dX7_eventOf_22 hout (Nat.le_of_ble_eq_true rfl) (Nat.le_of_ble_eq_true rfl) (Nat.le_of_ble_eq_true rfl) (Nat.le_of_ble_eq_true rfl) hlocks hG.symm (Nat.le_of_ble_eq_true rfl) (Nat.le_of_ble_eq_true rfl)
  · skip
    rw [if_neg c_1] at hG
    refine lv_iload_n hx hb dX7_eventOf_4 rfl (lv_at hl 1 rfl) ?_
    refine lv_aload_n hx hb dX7_eventOf_5 rfl (lv_at hl 0 rfl) ?_
    refine xget (C := RX7) (T := TX7) (N := 14) 11 hx hb hts hin7 hown I hR.f0 rfl (by decide) (List.mem_of_getElem? (i := 3) rfl) rfl rfl dX7_eventOf_6 ?_
    refine lv_icmp_lt (tgt := 23) hx hb dX7_eventOf_9 (by decide) (fun c_9 => ?_) (fun c_9 => ?_)
    · skip
      rw [if_pos c_9] at hG
      obtain ⟨e_a1, l_a1⟩ := okc_rng (n := cN τ 4) (by omega) c_1 c_9
      refine lv_aload_n hx hb dX7_eventOf_23 rfl (lv_at hl 0 rfl) ?_
      refine xget (C := RX7) (T := TX7) (N := 14) 4 hx hb hts hin7 hown I hR.f0 rfl (by decide) (List.mem_of_getElem? (i := 4) rfl) rfl rfl dX7_eventOf_24 ?_
      refine lv_iload_n hx hb dX7_eventOf_27 rfl (lv_at hl 1 rfl) ?_
      refine xtop (y := .int (nI (tn a1))) (congrArg Value.int e_a1) ?_
      refine xaald (i := (tn a1)) (n := 60) 7 hx hb I rfl hR.f5 (by omega) (by decide) (hR.2.2.2.2.2.2.2.2.1 (tn a1) (show tn a1 < cN τ 4 by first | assumption | omega)) dX7_eventOf_28 ?_
      refine W.eq (g2 := F0 m 29 ls [.ref (ad 17 (tn a1))]) rfl ?_
      exact xraX hx hb hr ⟨_, rfl⟩ hlocks dX7_eventOf_29 I hS ⟨_, hG.symm, rfl, rfl⟩ (Nat.le_of_ble_eq_true rfl) (Nat.le_of_ble_eq_true rfl)
    · skip
      rw [if_neg c_9] at hG
      exact xthSW (ik := 330) (is := 342) (ic := 334) (X := "java/lang/IndexOutOfBoundsException") (text := "there is no such event") hx hb hlst hown hts (by decide) (List.mem_of_getElem? (i := 1) rfl) (List.mem_of_getElem? (i := 2) rfl) hg334 (by decide) hT0 I hS (hl.1.trans hml.symm) dX7_eventOf_12 dX7_eventOf_15 dX7_eventOf_16 dX7_eventOf_19 dX7_eventOf_22 hout (Nat.le_of_ble_eq_true rfl) (Nat.le_of_ble_eq_true rfl) (Nat.le_of_ble_eq_true rfl) (Nat.le_of_ble_eq_true rfl) hlocks hG.symm (Nat.le_of_ble_eq_true rfl) (Nat.le_of_ble_eq_true rfl)

theorem okc_eventOf {τ : CT} (hW : CW τ) {x : Int32} {j : Nat} (h : fX7_eventOf τ x = .inr j) : j < cN τ 4 ∧ x = nI j := by
  unfold fX7_eventOf at h
  have hb := hW.1
  by_cases h1 : x < 0
  · rw [if_pos h1] at h; cases h
  · by_cases h2 : x < nI (cN τ 4)
    · rw [if_neg h1, if_pos h2] at h
      obtain ⟨e1, e2⟩ := okc_rng (by omega) h1 h2
      cases h
      exact ⟨e2, e1⟩
    · rw [if_neg h1, if_neg h2] at h; cases h

def fX7_checkRange (a1 : Int32) (a2 : Int32) (a3 : Int32) : (String ⊕ Unit) := (if a1 < a2 then (Sum.inl "java/lang/IllegalArgumentException") else (if a1 ≤ a3 then (Sum.inr ()) else (Sum.inl "java/lang/IllegalArgumentException")))
set_option maxHeartbeats 4000000 in
set_option maxRecDepth 100000 in
theorem mX7_checkRange (l : Launch) (lo : Nat) (D : va_G) (E : Nat → ClassId) (h : XW) (hlst : l.stackTraces = false) (a1 : Int32) (a2 : Int32) (a3 : Int32) : vx_Met l yX7_checkRange wsX7_checkRange ({ frames := 6, cells := 1, slots := 6, locals := 90 } : Room) (xP lo D E h [.int a1, .int a2, .int a3]) (xQ lo D (fun v h' => ∃ x, (fX7_checkRange a1 a2 a3) = .inr x ∧ v = none ∧ h' = h)) (xXp lo D h (fun En => (fX7_checkRange a1 a2 a3) = .inl En)) 1 6 (xA lo) := by
  obtain ⟨G, hG⟩ : ∃ G, fX7_checkRange a1 a2 a3 = G := ⟨_, rfl⟩
  rw [hG]
  unfold fX7_checkRange at hG
  refine vx_ofW (cc := cX7_checkRange) (maxL := 3) (ret := none) (by decide) rfl ?_
  intro p e s m args below meth c s₁ B hml hout hv
  obtain ⟨rfl, I⟩ := hv
  have hx := B.exec
  have hb := B.bytes
  have hr := B.returns
  have hts := atoms_spec (ws := wsX7_checkRange) B.pre
  have hown : s.vm.findClass RX7 = some m.cls := findClass_of_methodNamed B.named
  have hlocks := B.notSynchronized
  have hl := lv_entry ([.int a1, .int a2, .int a3] : List Value) (n := 3) (Nat.le_of_ble_eq_true rfl)
  rw [lg_entry_eq]
  generalize (lg_sl ([.int a1, .int a2, .int a3] : List Value) ++ List.replicate (3 - (lg_sl ([.int a1, .int a2, .int a3] : List Value)).length) Slot.unset).toArray = ls at hl ⊢
  have hl : lv_has ls 3 [(0, .int a1), (1, .int a2), (2, .int a3)] := hl
  have hg177 : ∀ w ∈ (vx_atS RX7 177 "java/lang/IllegalArgumentException" xnames).filter goodWord, w ∈ wsX7_checkRange := fun _ h => List.mem_cons_of_mem _ (List.mem_append_right _ (h))
  have hS : va_S (xA lo) s.heap s.heap [] := va_S.rf
  have hT0 : XT lo s s.heap := I.2.2.2.2
  refine lv_iload_n hx hb dX7_checkRange_0 rfl (lv_at hl 0 rfl) ?_
  refine lv_iload_n hx hb dX7_checkRange_1 rfl (lv_at hl 1 rfl) ?_
  refine lv_icmp_lt (tgt := 10) hx hb dX7_checkRange_2 (by decide) (fun c_2 => ?_) (fun c_2 => ?_)
  · skip
    rw [if_pos c_2] at hG
    exact xthSW (ik := 173) (is := 344) (ic := 177) (X := "java/lang/IllegalArgumentException") (text := "an argument is out of its range") hx hb hlst hown hts (by decide) (List.mem_of_getElem? (i := 1) rfl) (List.mem_of_getElem? (i := 2) rfl) hg177 (by decide) hT0 I hS (hl.1.trans hml.symm) dX7_checkRange_10 dX7_checkRange_13 dX7_checkRange_14 dX7_checkRange_17 dX7_checkRange_20 hout (Nat.le_of_ble_eq_true rfl) (Nat.le_of_ble_eq_true rfl) (Nat.le_of_ble_eq_true rfl) (Nat.le_of_ble_eq_true rfl) hlocks hG.symm (Nat.le_of_ble_eq_true rfl) (Nat.le_of_ble_eq_true rfl)
  · skip
    rw [if_neg c_2] at hG
    refine lv_iload_n hx hb dX7_checkRange_5 rfl (lv_at hl 0 rfl) ?_
    refine lv_iload_n hx hb dX7_checkRange_6 rfl (lv_at hl 2 rfl) ?_
    refine lv_icmp_le (tgt := 21) hx hb dX7_checkRange_7 (by decide) (fun c_7 => ?_) (fun c_7 => ?_)
    · skip
      rw [if_pos c_7] at hG
      exact xrvX hx hb hr hlocks dX7_checkRange_21 I hS ⟨_, hG.symm, rfl, rfl⟩ (Nat.le_of_ble_eq_true rfl) (Nat.le_of_ble_eq_true rfl)
    · skip
      rw [if_neg c_7] at hG
      exact xthSW (ik := 173) (is := 344) (ic := 177) (X := "java/lang/IllegalArgumentException") (text := "an argument is out of its range") hx hb hlst hown hts (by decide) (List.mem_of_getElem? (i := 1) rfl) (List.mem_of_getElem? (i := 2) rfl) hg177 (by decide) hT0 I hS (hl.1.trans hml.symm) dX7_checkRange_10 dX7_checkRange_13 dX7_checkRange_14 dX7_checkRange_17 dX7_checkRange_20 hout (Nat.le_of_ble_eq_true rfl) (Nat.le_of_ble_eq_true rfl) (Nat.le_of_ble_eq_true rfl) (Nat.le_of_ble_eq_true rfl) hlocks hG.symm (Nat.le_of_ble_eq_true rfl) (Nat.le_of_ble_eq_true rfl)

theorem okc_checkRange {x : Int32} {a b : Nat} (hab : a < 2 ^ 31 ∧ b < 2 ^ 31) {u : Unit} (h : fX7_checkRange x (nI a) (nI b) = .inr u) : x = nI (tn x) ∧ a ≤ tn x ∧ tn x ≤ b := by
  unfold fX7_checkRange at h
  by_cases h1 : x < nI a
  · rw [if_pos h1] at h; cases h
  · by_cases h2 : x ≤ nI b
    · have h0 : ¬ x < 0 := by
        intro q
        rw [Int32.lt_iff_toInt_lt] at q h1
        rw [nI_toInt hab.1] at h1
        have h3 : (0 : Int32).toInt = 0 := rfl
        omega
      obtain ⟨j, hj, rfl⟩ := nI_of h0
      rw [tn_nI hj]
      rw [nI_ltI hj hab.1] at h1
      rw [nI_leI hj hab.2] at h2
      exact ⟨rfl, by omega, by omega⟩
    · rw [if_neg h1, if_neg h2] at h; cases h

def fX7_checkYear (a1 : Int32) : (String ⊕ Unit) := (xbindE (fX7_checkRange a1 (nI 0) (nI 19)) (fun _ => (Sum.inr ())))
set_option maxHeartbeats 4000000 in
set_option maxRecDepth 100000 in
theorem mX7_checkYear (l : Launch) (lo : Nat) (D : va_G) (E : Nat → ClassId) (h : XW) (hlst : l.stackTraces = false) (a1 : Int32) : vx_Met l yX7_checkYear wsX7_checkYear ({ frames := 7, cells := 1, slots := 6, locals := 112 } : Room) (xP lo D E h [.int a1]) (xQ lo D (fun v h' => ∃ x, (fX7_checkYear a1) = .inr x ∧ v = none ∧ h' = h)) (xXp lo D h (fun En => (fX7_checkYear a1) = .inl En)) 1 6 (xA lo) := by
  obtain ⟨G, hG⟩ : ∃ G, fX7_checkYear a1 = G := ⟨_, rfl⟩
  rw [hG]
  unfold fX7_checkYear at hG
  refine vx_ofW (cc := cX7_checkYear) (maxL := 1) (ret := none) (by decide) rfl ?_
  intro p e s m args below meth c s₁ B hml hout hv
  obtain ⟨rfl, I⟩ := hv
  have hx := B.exec
  have hb := B.bytes
  have hr := B.returns
  have hts := atoms_spec (ws := wsX7_checkYear) B.pre
  have hown : s.vm.findClass RX7 = some m.cls := findClass_of_methodNamed B.named
  have hlocks := B.notSynchronized
  have hl := lv_entry ([.int a1] : List Value) (n := 1) (Nat.le_of_ble_eq_true rfl)
  rw [lg_entry_eq]
  generalize (lg_sl ([.int a1] : List Value) ++ List.replicate (1 - (lg_sl ([.int a1] : List Value)).length) Slot.unset).toArray = ls at hl ⊢
  have hl : lv_has ls 1 [(0, .int a1)] := hl
  have hg177 : ∀ w ∈ (vx_atS RX7 177 "java/lang/IllegalArgumentException" xnames).filter goodWord, w ∈ wsX7_checkYear := fun _ h => List.mem_cons_of_mem _ (List.mem_append_right _ (h))
  have hS : va_S (xA lo) s.heap s.heap [] := va_S.rf
  have hT0 : XT lo s s.heap := I.2.2.2.2
  refine lv_iload_n hx hb dX7_checkYear_0 rfl (lv_at hl 0 rfl) ?_
  refine lv_iconst (v := (nI 0)) hx hb dX7_checkYear_1 (by decide) ?_
  refine lv_bipush (v := (nI 19)) hx hb dX7_checkYear_2 (by decide) ?_
  refine xcsX (As := [.int a1, .int (nI 0), .int (nI 19)]) (rest := []) ⟨hx, hb, hml, hown, hts⟩ (mX7_checkRange l lo D E h hlst a1 (nI 0) (nI 19)) (va_cwS 3 hts gX7_checkYear_X7_checkRange rfl rfl rfl (by decide +kernel) ⟨Nat.le_of_ble_eq_true rfl, Nat.le_of_ble_eq_true rfl⟩) I hS rfl hl.1 rfl (Nat.le_of_ble_eq_true rfl) dX7_checkYear_4 ⟨Nat.le_of_ble_eq_true rfl, Nat.le_of_ble_eq_true rfl⟩ hout hlocks (fun En q => by rw [q] at hG; exact hG.symm) ⟨Nat.le_of_ble_eq_true rfl, Nat.le_of_ble_eq_true rfl⟩ (fun v9 hw9 H locs q9 I hS => ?_)
  obtain ⟨x4, e4, q1, q2⟩ := q9
  subst q1
  rw [q2] at I
  rw [e4] at hG
  have hG : (Sum.inr ()) = G := hG
  obtain ⟨e_a1, l_a1⟩ := okc_checkRange (by omega) e4
  refine W.eq (g2 := F0 m 7 ls []) rfl ?_
  exact xrvX hx hb hr hlocks dX7_checkYear_7 I hS ⟨_, hG.symm, rfl, rfl⟩ (Nat.le_of_ble_eq_true rfl) (Nat.le_of_ble_eq_true rfl)

theorem okc_checkYear {x : Int32} {u : Unit} (h : fX7_checkYear x = .inr u) : x = nI (tn x) ∧ tn x < 20 := by
  unfold fX7_checkYear at h
  cases h2 : fX7_checkRange x (nI 0) (nI 19) with
  | inl e => rw [h2] at h; cases h
  | inr v => have q := okc_checkRange (by decide) h2; exact ⟨q.1, by omega⟩

def fX7_checkKind (a1 : Int32) : (String ⊕ Unit) := (xbindE (fX7_checkRange a1 (nI 0) (nI 3)) (fun _ => (Sum.inr ())))
set_option maxHeartbeats 4000000 in
set_option maxRecDepth 100000 in
theorem mX7_checkKind (l : Launch) (lo : Nat) (D : va_G) (E : Nat → ClassId) (h : XW) (hlst : l.stackTraces = false) (a1 : Int32) : vx_Met l yX7_checkKind wsX7_checkKind ({ frames := 7, cells := 1, slots := 6, locals := 112 } : Room) (xP lo D E h [.int a1]) (xQ lo D (fun v h' => ∃ x, (fX7_checkKind a1) = .inr x ∧ v = none ∧ h' = h)) (xXp lo D h (fun En => (fX7_checkKind a1) = .inl En)) 1 6 (xA lo) := by
  obtain ⟨G, hG⟩ : ∃ G, fX7_checkKind a1 = G := ⟨_, rfl⟩
  rw [hG]
  unfold fX7_checkKind at hG
  refine vx_ofW (cc := cX7_checkKind) (maxL := 1) (ret := none) (by decide) rfl ?_
  intro p e s m args below meth c s₁ B hml hout hv
  obtain ⟨rfl, I⟩ := hv
  have hx := B.exec
  have hb := B.bytes
  have hr := B.returns
  have hts := atoms_spec (ws := wsX7_checkKind) B.pre
  have hown : s.vm.findClass RX7 = some m.cls := findClass_of_methodNamed B.named
  have hlocks := B.notSynchronized
  have hl := lv_entry ([.int a1] : List Value) (n := 1) (Nat.le_of_ble_eq_true rfl)
  rw [lg_entry_eq]
  generalize (lg_sl ([.int a1] : List Value) ++ List.replicate (1 - (lg_sl ([.int a1] : List Value)).length) Slot.unset).toArray = ls at hl ⊢
  have hl : lv_has ls 1 [(0, .int a1)] := hl
  have hg177 : ∀ w ∈ (vx_atS RX7 177 "java/lang/IllegalArgumentException" xnames).filter goodWord, w ∈ wsX7_checkKind := fun _ h => List.mem_cons_of_mem _ (List.mem_append_right _ (h))
  have hS : va_S (xA lo) s.heap s.heap [] := va_S.rf
  have hT0 : XT lo s s.heap := I.2.2.2.2
  refine lv_iload_n hx hb dX7_checkKind_0 rfl (lv_at hl 0 rfl) ?_
  refine lv_iconst (v := (nI 0)) hx hb dX7_checkKind_1 (by decide) ?_
  refine lv_iconst (v := (nI 3)) hx hb dX7_checkKind_2 (by decide) ?_
  refine xcsX (As := [.int a1, .int (nI 0), .int (nI 3)]) (rest := []) ⟨hx, hb, hml, hown, hts⟩ (mX7_checkRange l lo D E h hlst a1 (nI 0) (nI 3)) (va_cwS 3 hts gX7_checkKind_X7_checkRange rfl rfl rfl (by decide +kernel) ⟨Nat.le_of_ble_eq_true rfl, Nat.le_of_ble_eq_true rfl⟩) I hS rfl hl.1 rfl (Nat.le_of_ble_eq_true rfl) dX7_checkKind_3 ⟨Nat.le_of_ble_eq_true rfl, Nat.le_of_ble_eq_true rfl⟩ hout hlocks (fun En q => by rw [q] at hG; exact hG.symm) ⟨Nat.le_of_ble_eq_true rfl, Nat.le_of_ble_eq_true rfl⟩ (fun v9 hw9 H locs q9 I hS => ?_)
  obtain ⟨x3, e3, q1, q2⟩ := q9
  subst q1
  rw [q2] at I
  rw [e3] at hG
  have hG : (Sum.inr ()) = G := hG
  obtain ⟨e_a1, l_a1⟩ := okc_checkRange (by omega) e3
  refine W.eq (g2 := F0 m 6 ls []) rfl ?_
  exact xrvX hx hb hr hlocks dX7_checkKind_6 I hS ⟨_, hG.symm, rfl, rfl⟩ (Nat.le_of_ble_eq_true rfl) (Nat.le_of_ble_eq_true rfl)

theorem okc_checkKind {x : Int32} {u : Unit} (h : fX7_checkKind x = .inr u) : x = nI (tn x) ∧ tn x < 4 := by
  unfold fX7_checkKind at h
  cases h2 : fX7_checkRange x (nI 0) (nI 3) with
  | inl e => rw [h2] at h; cases h
  | inr v => have q := okc_checkRange (by decide) h2; exact ⟨q.1, by omega⟩

def fX7_checkLoss (a1 : Int32) : (String ⊕ Unit) := (xbindE (fX7_checkRange a1 (nI 0) (nI 100000000)) (fun _ => (Sum.inr ())))
set_option maxHeartbeats 4000000 in
set_option maxRecDepth 100000 in
theorem mX7_checkLoss (l : Launch) (lo : Nat) (D : va_G) (E : Nat → ClassId) (h : XW) (hlst : l.stackTraces = false) (a1 : Int32) : vx_Met l yX7_checkLoss wsX7_checkLoss ({ frames := 7, cells := 1, slots := 6, locals := 112 } : Room) (xP lo D E h [.int a1]) (xQ lo D (fun v h' => ∃ x, (fX7_checkLoss a1) = .inr x ∧ v = none ∧ h' = h)) (xXp lo D h (fun En => (fX7_checkLoss a1) = .inl En)) 1 6 (xA lo) := by
  obtain ⟨G, hG⟩ : ∃ G, fX7_checkLoss a1 = G := ⟨_, rfl⟩
  rw [hG]
  unfold fX7_checkLoss at hG
  refine vx_ofW (cc := cX7_checkLoss) (maxL := 1) (ret := none) (by decide) rfl ?_
  intro p e s m args below meth c s₁ B hml hout hv
  obtain ⟨rfl, I⟩ := hv
  have hx := B.exec
  have hb := B.bytes
  have hr := B.returns
  have hts := atoms_spec (ws := wsX7_checkLoss) B.pre
  have hown : s.vm.findClass RX7 = some m.cls := findClass_of_methodNamed B.named
  have hlocks := B.notSynchronized
  have hl := lv_entry ([.int a1] : List Value) (n := 1) (Nat.le_of_ble_eq_true rfl)
  rw [lg_entry_eq]
  generalize (lg_sl ([.int a1] : List Value) ++ List.replicate (1 - (lg_sl ([.int a1] : List Value)).length) Slot.unset).toArray = ls at hl ⊢
  have hl : lv_has ls 1 [(0, .int a1)] := hl
  have hg177 : ∀ w ∈ (vx_atS RX7 177 "java/lang/IllegalArgumentException" xnames).filter goodWord, w ∈ wsX7_checkLoss := fun _ h => List.mem_cons_of_mem _ (List.mem_append_right _ (h))
  have hS : va_S (xA lo) s.heap s.heap [] := va_S.rf
  have hT0 : XT lo s s.heap := I.2.2.2.2
  refine lv_iload_n hx hb dX7_checkLoss_0 rfl (lv_at hl 0 rfl) ?_
  refine lv_iconst (v := (nI 0)) hx hb dX7_checkLoss_1 (by decide) ?_
  refine lv_ldc (v := (nI 100000000)) hx hb hown (hts _ (List.mem_of_getElem? (i := 1) rfl)) dX7_checkLoss_2 ?_
  refine xcsX (As := [.int a1, .int (nI 0), .int (nI 100000000)]) (rest := []) ⟨hx, hb, hml, hown, hts⟩ (mX7_checkRange l lo D E h hlst a1 (nI 0) (nI 100000000)) (va_cwS 3 hts gX7_checkLoss_X7_checkRange rfl rfl rfl (by decide +kernel) ⟨Nat.le_of_ble_eq_true rfl, Nat.le_of_ble_eq_true rfl⟩) I hS rfl hl.1 rfl (Nat.le_of_ble_eq_true rfl) dX7_checkLoss_4 ⟨Nat.le_of_ble_eq_true rfl, Nat.le_of_ble_eq_true rfl⟩ hout hlocks (fun En q => by rw [q] at hG; exact hG.symm) ⟨Nat.le_of_ble_eq_true rfl, Nat.le_of_ble_eq_true rfl⟩ (fun v9 hw9 H locs q9 I hS => ?_)
  obtain ⟨x4, e4, q1, q2⟩ := q9
  subst q1
  rw [q2] at I
  rw [e4] at hG
  have hG : (Sum.inr ()) = G := hG
  obtain ⟨e_a1, l_a1⟩ := okc_checkRange (by omega) e4
  refine W.eq (g2 := F0 m 7 ls []) rfl ?_
  exact xrvX hx hb hr hlocks dX7_checkLoss_7 I hS ⟨_, hG.symm, rfl, rfl⟩ (Nat.le_of_ble_eq_true rfl) (Nat.le_of_ble_eq_true rfl)

theorem okc_checkLoss {x : Int32} {u : Unit} (h : fX7_checkLoss x = .inr u) : x = nI (tn x) ∧ tn x ≤ 100000000 := by
  unfold fX7_checkLoss at h
  cases h2 : fX7_checkRange x (nI 0) (nI 100000000) with
  | inl e => rw [h2] at h; cases h
  | inr v => have q := okc_checkRange (by decide) h2; exact ⟨q.1, by omega⟩

def fX7_checkOpen (τ : CT) (y1 : Nat) : (String ⊕ Unit) := (if (cI τ 33 y1) = 0 then (Sum.inr ()) else (Sum.inl "java/lang/IllegalStateException"))
set_option maxHeartbeats 4000000 in
set_option maxRecDepth 100000 in
theorem mX7_checkOpen (l : Launch) (lo : Nat) (D : va_G) (E : Nat → ClassId) (h : XW) (hlst : l.stackTraces = false) (Pr : Nat → Prop) (τ : CT) (ad : Nat → Nat → Nat) (fa : Nat → Nat → Option Nat) (hR : RC E Pr τ ad fa h) (hW : CW τ) (y1 : Nat) (hy : y1 < 20) : vx_Met l yX7_checkOpen wsX7_checkOpen ({ frames := 6, cells := 1, slots := 6, locals := 90 } : Room) (xP lo D E h [.ref (ad 0 0), .int (nI y1)]) (xQ lo D (fun v h' => ∃ x, (fX7_checkOpen τ y1) = .inr x ∧ v = none ∧ h' = h)) (xXp lo D h (fun En => (fX7_checkOpen τ y1) = .inl En)) 1 6 (xA lo) := by
  obtain ⟨G, hG⟩ : ∃ G, fX7_checkOpen τ y1 = G := ⟨_, rfl⟩
  rw [hG]
  unfold fX7_checkOpen at hG
  refine vx_ofW (cc := cX7_checkOpen) (maxL := 2) (ret := none) (by decide) rfl ?_
  intro p e s m args below meth c s₁ B hml hout hv
  obtain ⟨rfl, I⟩ := hv
  have hx := B.exec
  have hb := B.bytes
  have hr := B.returns
  have hts := atoms_spec (ws := wsX7_checkOpen) B.pre
  have hown : s.vm.findClass RX7 = some m.cls := findClass_of_methodNamed B.named
  have hlocks := B.notSynchronized
  have hl := lv_entry ([.ref (ad 0 0), .int (nI y1)] : List Value) (n := 2) (Nat.le_of_ble_eq_true rfl)
  rw [lg_entry_eq]
  generalize (lg_sl ([.ref (ad 0 0), .int (nI y1)] : List Value) ++ List.replicate (2 - (lg_sl ([.ref (ad 0 0), .int (nI y1)] : List Value)).length) Slot.unset).toArray = ls at hl ⊢
  have hl : lv_has ls 2 [(0, .ref (ad 0 0)), (1, .int (nI y1))] := hl
  have hin7 : ∀ w ∈ u_ws RX7 TX7 14, w ∈ wsX7_checkOpen := fun _ h => List.mem_cons_of_mem _ (List.mem_append_left _ (List.mem_append_left _ (List.mem_append_right _ (h))))
  have hin6 : ∀ w ∈ u_ws RX6 TX6 7, w ∈ wsX7_checkOpen := fun _ h => List.mem_cons_of_mem _ (List.mem_append_left _ (List.mem_append_right _ (h)))
  have hg61 : ∀ w ∈ (vx_atS RX7 61 "java/lang/IllegalStateException" xnames).filter goodWord, w ∈ wsX7_checkOpen := fun _ h => List.mem_cons_of_mem _ (List.mem_append_right _ (h))
  have hW0 := hW
  obtain ⟨w0, -⟩ := id hW
  have hS : va_S (xA lo) s.heap s.heap [] := va_S.rf
  have hT0 : XT lo s s.heap := I.2.2.2.2
  have hF : cF Pr h h := cF.rf
  refine lv_aload_n hx hb dX7_checkOpen_0 rfl (lv_at hl 0 rfl) ?_
  refine xget (C := RX7) (T := TX7) (N := 14) 5 hx hb hts hin7 hown I hR.f0 rfl (by decide) (List.mem_of_getElem? (i := 3) rfl) rfl rfl dX7_checkOpen_1 ?_
  refine lv_iload_n hx hb dX7_checkOpen_4 rfl (lv_at hl 1 rfl) ?_
  refine xaald (i := y1) (n := 20) 8 hx hb I rfl hR.f6 (by omega) (by decide) (hR.2.2.2.2.2.2.2.2.2 y1 (show y1 < 20 by first | assumption | omega)) dX7_checkOpen_5 ?_
  refine W.eq (g2 := F0 m 6 ls [.ref (ad 18 y1)]) rfl ?_
  refine xget (C := RX6) (T := TX6) (N := 7) 2 hx hb hts hin6 hown I (hR.f18 (show y1 < 20 by first | assumption | omega)) rfl (by decide) (List.mem_of_getElem? (i := 4) rfl) rfl rfl dX7_checkOpen_6 ?_
  refine lv_if_eq (tgt := 23) hx hb dX7_checkOpen_9 (by decide) (fun c_9 => ?_) (fun c_9 => ?_)
  · skip
    rw [if_pos c_9] at hG
    exact xrvX hx hb hr hlocks dX7_checkOpen_23 I hS ⟨_, hG.symm, rfl, rfl⟩ (Nat.le_of_ble_eq_true rfl) (Nat.le_of_ble_eq_true rfl)
  · skip
    rw [if_neg c_9] at hG
    exact xthSW (ik := 57) (is := 346) (ic := 61) (X := "java/lang/IllegalStateException") (text := "the year is closed") hx hb hlst hown hts (by decide) (List.mem_of_getElem? (i := 1) rfl) (List.mem_of_getElem? (i := 2) rfl) hg61 (by decide) hT0 I hS (hl.1.trans hml.symm) dX7_checkOpen_12 dX7_checkOpen_15 dX7_checkOpen_16 dX7_checkOpen_19 dX7_checkOpen_22 hout (Nat.le_of_ble_eq_true rfl) (Nat.le_of_ble_eq_true rfl) (Nat.le_of_ble_eq_true rfl) (Nat.le_of_ble_eq_true rfl) hlocks hG.symm (Nat.le_of_ble_eq_true rfl) (Nat.le_of_ble_eq_true rfl)

def fX7_checkUnsettled (τ : CT) (c1 : Nat) : (String ⊕ Unit) := (if (cI τ 26 c1) = 0 then (Sum.inr ()) else (Sum.inl "java/lang/IllegalStateException"))
set_option maxHeartbeats 4000000 in
set_option maxRecDepth 100000 in
theorem mX7_checkUnsettled (l : Launch) (lo : Nat) (D : va_G) (E : Nat → ClassId) (h : XW) (hlst : l.stackTraces = false) (Pr : Nat → Prop) (τ : CT) (ad : Nat → Nat → Nat) (fa : Nat → Nat → Option Nat) (hR : RC E Pr τ ad fa h) (hW : CW τ) (c1 : Nat) (h_c1 : c1 < cN τ 3) : vx_Met l yX7_checkUnsettled wsX7_checkUnsettled ({ frames := 6, cells := 1, slots := 6, locals := 90 } : Room) (xP lo D E h [.ref (ad 16 c1)]) (xQ lo D (fun v h' => ∃ x, (fX7_checkUnsettled τ c1) = .inr x ∧ v = none ∧ h' = h)) (xXp lo D h (fun En => (fX7_checkUnsettled τ c1) = .inl En)) 1 6 (xA lo) := by
  obtain ⟨G, hG⟩ : ∃ G, fX7_checkUnsettled τ c1 = G := ⟨_, rfl⟩
  rw [hG]
  unfold fX7_checkUnsettled at hG
  refine vx_ofW (cc := cX7_checkUnsettled) (maxL := 1) (ret := none) (by decide) rfl ?_
  intro p e s m args below meth c s₁ B hml hout hv
  obtain ⟨rfl, I⟩ := hv
  have hx := B.exec
  have hb := B.bytes
  have hr := B.returns
  have hts := atoms_spec (ws := wsX7_checkUnsettled) B.pre
  have hown : s.vm.findClass RX7 = some m.cls := findClass_of_methodNamed B.named
  have hlocks := B.notSynchronized
  have hl := lv_entry ([.ref (ad 16 c1)] : List Value) (n := 1) (Nat.le_of_ble_eq_true rfl)
  rw [lg_entry_eq]
  generalize (lg_sl ([.ref (ad 16 c1)] : List Value) ++ List.replicate (1 - (lg_sl ([.ref (ad 16 c1)] : List Value)).length) Slot.unset).toArray = ls at hl ⊢
  have hl : lv_has ls 1 [(0, .ref (ad 16 c1))] := hl
  have hin0 : ∀ w ∈ u_ws RX0 TX0 8, w ∈ wsX7_checkUnsettled := fun _ h => List.mem_cons_of_mem _ (List.mem_append_left _ (List.mem_append_right _ (h)))
  have hg61 : ∀ w ∈ (vx_atS RX7 61 "java/lang/IllegalStateException" xnames).filter goodWord, w ∈ wsX7_checkUnsettled := fun _ h => List.mem_cons_of_mem _ (List.mem_append_right _ (h))
  have hW0 := hW
  obtain ⟨w0, -⟩ := id hW
  have hS : va_S (xA lo) s.heap s.heap [] := va_S.rf
  have hT0 : XT lo s s.heap := I.2.2.2.2
  have hF : cF Pr h h := cF.rf
  refine lv_aload_n hx hb dX7_checkUnsettled_0 rfl (lv_at hl 0 rfl) ?_
  refine xget (C := RX0) (T := TX0) (N := 8) 5 hx hb hts hin0 hown I (hR.f16 (show c1 < cN τ 3 by first | assumption | omega)) rfl (by decide) (List.mem_of_getElem? (i := 3) rfl) rfl rfl dX7_checkUnsettled_1 ?_
  refine lv_if_eq (tgt := 18) hx hb dX7_checkUnsettled_4 (by decide) (fun c_4 => ?_) (fun c_4 => ?_)
  · skip
    rw [if_pos c_4] at hG
    exact xrvX hx hb hr hlocks dX7_checkUnsettled_18 I hS ⟨_, hG.symm, rfl, rfl⟩ (Nat.le_of_ble_eq_true rfl) (Nat.le_of_ble_eq_true rfl)
  · skip
    rw [if_neg c_4] at hG
    exact xthSW (ik := 57) (is := 348) (ic := 61) (X := "java/lang/IllegalStateException") (text := "the claim is settled") hx hb hlst hown hts (by decide) (List.mem_of_getElem? (i := 1) rfl) (List.mem_of_getElem? (i := 2) rfl) hg61 (by decide) hT0 I hS (hl.1.trans hml.symm) dX7_checkUnsettled_7 dX7_checkUnsettled_10 dX7_checkUnsettled_11 dX7_checkUnsettled_14 dX7_checkUnsettled_17 hout (Nat.le_of_ble_eq_true rfl) (Nat.le_of_ble_eq_true rfl) (Nat.le_of_ble_eq_true rfl) (Nat.le_of_ble_eq_true rfl) hlocks hG.symm (Nat.le_of_ble_eq_true rfl) (Nat.le_of_ble_eq_true rfl)

def fX7_checkRoomForClaims (τ : CT) (a1 : Int32) : (String ⊕ Unit) := (if ((nI (cN τ 3)) + a1) ≤ (nI 60) then (Sum.inr ()) else (Sum.inl "java/lang/IllegalStateException"))
set_option maxHeartbeats 4000000 in
set_option maxRecDepth 100000 in
theorem mX7_checkRoomForClaims (l : Launch) (lo : Nat) (D : va_G) (E : Nat → ClassId) (h : XW) (hlst : l.stackTraces = false) (Pr : Nat → Prop) (τ : CT) (ad : Nat → Nat → Nat) (fa : Nat → Nat → Option Nat) (hR : RC E Pr τ ad fa h) (hW : CW τ) (a1 : Int32) : vx_Met l yX7_checkRoomForClaims wsX7_checkRoomForClaims ({ frames := 6, cells := 1, slots := 6, locals := 90 } : Room) (xP lo D E h [.ref (ad 0 0), .int a1]) (xQ lo D (fun v h' => ∃ x, (fX7_checkRoomForClaims τ a1) = .inr x ∧ v = none ∧ h' = h)) (xXp lo D h (fun En => (fX7_checkRoomForClaims τ a1) = .inl En)) 1 6 (xA lo) := by
  obtain ⟨G, hG⟩ : ∃ G, fX7_checkRoomForClaims τ a1 = G := ⟨_, rfl⟩
  rw [hG]
  unfold fX7_checkRoomForClaims at hG
  refine vx_ofW (cc := cX7_checkRoomForClaims) (maxL := 2) (ret := none) (by decide) rfl ?_
  intro p e s m args below meth c s₁ B hml hout hv
  obtain ⟨rfl, I⟩ := hv
  have hx := B.exec
  have hb := B.bytes
  have hr := B.returns
  have hts := atoms_spec (ws := wsX7_checkRoomForClaims) B.pre
  have hown : s.vm.findClass RX7 = some m.cls := findClass_of_methodNamed B.named
  have hlocks := B.notSynchronized
  have hl := lv_entry ([.ref (ad 0 0), .int a1] : List Value) (n := 2) (Nat.le_of_ble_eq_true rfl)
  rw [lg_entry_eq]
  generalize (lg_sl ([.ref (ad 0 0), .int a1] : List Value) ++ List.replicate (2 - (lg_sl ([.ref (ad 0 0), .int a1] : List Value)).length) Slot.unset).toArray = ls at hl ⊢
  have hl : lv_has ls 2 [(0, .ref (ad 0 0)), (1, .int a1)] := hl
  have hin7 : ∀ w ∈ u_ws RX7 TX7 14, w ∈ wsX7_checkRoomForClaims := fun _ h => List.mem_cons_of_mem _ (List.mem_append_left _ (List.mem_append_right _ (h)))
  have hg61 : ∀ w ∈ (vx_atS RX7 61 "java/lang/IllegalStateException" xnames).filter goodWord, w ∈ wsX7_checkRoomForClaims := fun _ h => List.mem_cons_of_mem _ (List.mem_append_right _ (h))
  have hW0 := hW
  obtain ⟨w0, -⟩ := id hW
  have hS : va_S (xA lo) s.heap s.heap [] := va_S.rf
  have hT0 : XT lo s s.heap := I.2.2.2.2
  have hF : cF Pr h h := cF.rf
  refine lv_aload_n hx hb dX7_checkRoomForClaims_0 rfl (lv_at hl 0 rfl) ?_
  refine xget (C := RX7) (T := TX7) (N := 14) 10 hx hb hts hin7 hown I hR.f0 rfl (by decide) (List.mem_of_getElem? (i := 3) rfl) rfl rfl dX7_checkRoomForClaims_1 ?_
  refine lv_iload_n hx hb dX7_checkRoomForClaims_4 rfl (lv_at hl 1 rfl) ?_
  refine lv_iadd hx hb dX7_checkRoomForClaims_5 ?_
  refine lv_bipush (v := (nI 60)) hx hb dX7_checkRoomForClaims_6 (by decide) ?_
  refine lv_icmp_le (tgt := 22) hx hb dX7_checkRoomForClaims_8 (by decide) (fun c_8 => ?_) (fun c_8 => ?_)
  · skip
    rw [if_pos c_8] at hG
    exact xrvX hx hb hr hlocks dX7_checkRoomForClaims_22 I hS ⟨_, hG.symm, rfl, rfl⟩ (Nat.le_of_ble_eq_true rfl) (Nat.le_of_ble_eq_true rfl)
  · skip
    rw [if_neg c_8] at hG
    exact xthSW (ik := 57) (is := 350) (ic := 61) (X := "java/lang/IllegalStateException") (text := "there are too many claims") hx hb hlst hown hts (by decide) (List.mem_of_getElem? (i := 1) rfl) (List.mem_of_getElem? (i := 2) rfl) hg61 (by decide) hT0 I hS (hl.1.trans hml.symm) dX7_checkRoomForClaims_11 dX7_checkRoomForClaims_14 dX7_checkRoomForClaims_15 dX7_checkRoomForClaims_18 dX7_checkRoomForClaims_21 hout (Nat.le_of_ble_eq_true rfl) (Nat.le_of_ble_eq_true rfl) (Nat.le_of_ble_eq_true rfl) (Nat.le_of_ble_eq_true rfl) hlocks hG.symm (Nat.le_of_ble_eq_true rfl) (Nat.le_of_ble_eq_true rfl)

def fX7_checkClosable_S60 (τ : CT) (y1 : Nat) (k60 : Nat) : (Unit ⊕ (String ⊕ Unit)) := (if (nI ((cK τ 16 (cK τ 13 k60)) / 100)) = (nI y1) then (if (cI τ 26 k60) = 0 then (Sum.inr (Sum.inl "java/lang/IllegalStateException")) else (Sum.inl ())) else (Sum.inl ()))
def fX7_checkClosable_L60 (τ : CT) (y1 : Nat) : Nat → Nat → (String ⊕ Unit)
  | 0, k60 => (Sum.inr ())
  | n60 + 1, k60 => lbind (fX7_checkClosable_S60 τ y1 k60) (fun q => fX7_checkClosable_L60 τ y1 n60 (k60 + 1))
def fX7_checkClosable_B58 (τ : CT) (y1 : Nat) : (String ⊕ Unit) := (fX7_checkClosable_L60 τ y1 (cN τ 3) 0)
def fX7_checkClosable (τ : CT) (y1 : Nat) : (String ⊕ Unit) := (xbindE (fX7_checkOpen τ y1) (fun _ => (if (nI ((y1 + 1) * 100)) ≤ (nI (cN τ 5)) then (if (nI y1) ≤ 0 then (fX7_checkClosable_B58 τ y1) else (if (cI τ 33 (y1 - 1)) = 0 then (Sum.inl "java/lang/IllegalStateException") else (fX7_checkClosable_B58 τ y1))) else (Sum.inl "java/lang/IllegalStateException"))))
set_option maxHeartbeats 4000000 in
set_option maxRecDepth 100000 in
theorem mX7_checkClosable (l : Launch) (lo : Nat) (D : va_G) (E : Nat → ClassId) (h : XW) (hlst : l.stackTraces = false) (Pr : Nat → Prop) (τ : CT) (ad : Nat → Nat → Nat) (fa : Nat → Nat → Option Nat) (hR : RC E Pr τ ad fa h) (hW : CW τ) (y1 : Nat) (hy : y1 < 20) : vx_Met l yX7_checkClosable wsX7_checkClosable ({ frames := 7, cells := 2, slots := 12, locals := 111 } : Room) (xP lo D E h [.ref (ad 0 0), .int (nI y1)]) (xQ lo D (fun v h' => ∃ x, (fX7_checkClosable τ y1) = .inr x ∧ v = none ∧ h' = h)) (xXp lo D h (fun En => (fX7_checkClosable τ y1) = .inl En)) 2 12 (xA lo) := by
  obtain ⟨G, hG⟩ : ∃ G, fX7_checkClosable τ y1 = G := ⟨_, rfl⟩
  rw [hG]
  unfold fX7_checkClosable at hG
  refine vx_ofW (cc := cX7_checkClosable) (maxL := 3) (ret := none) (by decide) rfl ?_
  intro p e s m args below meth c s₁ B hml hout hv
  obtain ⟨rfl, I⟩ := hv
  have hx := B.exec
  have hb := B.bytes
  have hr := B.returns
  have hts := atoms_spec (ws := wsX7_checkClosable) B.pre
  have hown : s.vm.findClass RX7 = some m.cls := findClass_of_methodNamed B.named
  have hlocks := B.notSynchronized
  have hl := lv_entry ([.ref (ad 0 0), .int (nI y1)] : List Value) (n := 3) (Nat.le_of_ble_eq_true rfl)
  rw [lg_entry_eq]
  generalize (lg_sl ([.ref (ad 0 0), .int (nI y1)] : List Value) ++ List.replicate (3 - (lg_sl ([.ref (ad 0 0), .int (nI y1)] : List Value)).length) Slot.unset).toArray = ls at hl ⊢
  have hl : lv_has ls 3 [(0, .ref (ad 0 0)), (1, .int (nI y1))] := hl
  have hin7 : ∀ w ∈ u_ws RX7 TX7 14, w ∈ wsX7_checkClosable := fun _ h => List.mem_cons_of_mem _ (List.mem_append_left _ (List.mem_append_left _ (List.mem_append_left _ (List.mem_append_left _ (List.mem_append_right _ (h))))))
  have hin0 : ∀ w ∈ u_ws RX0 TX0 8, w ∈ wsX7_checkClosable := fun _ h => List.mem_cons_of_mem _ (List.mem_append_left _ (List.mem_append_left _ (List.mem_append_right _ (h))))
  have hin2 : ∀ w ∈ u_ws RX2 TX2 3, w ∈ wsX7_checkClosable := fun _ h => List.mem_cons_of_mem _ (List.mem_append_left _ (List.mem_append_right _ (h)))
  have hin6 : ∀ w ∈ u_ws RX6 TX6 7, w ∈ wsX7_checkClosable := fun _ h => List.mem_cons_of_mem _ (List.mem_append_left _ (List.mem_append_left _ (List.mem_append_left _ (List.mem_append_right _ (h)))))
  have hg61 : ∀ w ∈ (vx_atS RX7 61 "java/lang/IllegalStateException" xnames).filter goodWord, w ∈ wsX7_checkClosable := fun _ h => List.mem_cons_of_mem _ (List.mem_append_right _ (h))
  have hW0 := hW
  obtain ⟨w0, -⟩ := id hW
  have hS : va_S (xA lo) s.heap s.heap [] := va_S.rf
  have hT0 : XT lo s s.heap := I.2.2.2.2
  have hF : cF Pr h h := cF.rf
  refine lv_aload_n hx hb dX7_checkClosable_0 rfl (lv_at hl 0 rfl) ?_
  refine lv_iload_n hx hb dX7_checkClosable_1 rfl (lv_at hl 1 rfl) ?_
  refine xcvX (As := [.int (nI y1)]) (rest := []) ⟨hx, hb, hml, hown, hts⟩ (mX7_checkOpen l lo D E h hlst Pr τ ad fa hR hW y1 (by first | assumption | omega)) (cwV 1 hts gX7_checkClosable_X7_checkOpen rfl rfl rfl (by decide +kernel) ⟨Nat.le_of_ble_eq_true rfl, Nat.le_of_ble_eq_true rfl⟩) I hS hR.f0 rfl rfl hl.1 rfl (Nat.le_of_ble_eq_true rfl) dX7_checkClosable_2 ⟨Nat.le_of_ble_eq_true rfl, Nat.le_of_ble_eq_true rfl⟩ hout hlocks (fun En q => by rw [q] at hG; exact hG.symm) ⟨Nat.le_of_ble_eq_true rfl, Nat.le_of_ble_eq_true rfl⟩ (fun v9 hw9 H locs q9 I hS => ?_)
  obtain ⟨x2, e2, q1, q2⟩ := q9
  subst q1
  rw [q2] at I
  rw [e2] at hG
  have hG : (if (nI ((y1 + 1) * 100)) ≤ (nI (cN τ 5)) then (if (nI y1) ≤ 0 then (fX7_checkClosable_B58 τ y1) else (if (cI τ 33 (y1 - 1)) = 0 then (Sum.inl "java/lang/IllegalStateException") else (fX7_checkClosable_B58 τ y1))) else (Sum.inl "java/lang/IllegalStateException")) = G := hG
  refine W.eq (g2 := F0 m 5 ls []) rfl ?_
  refine lv_aload_n hx hb dX7_checkClosable_5 rfl (lv_at hl 0 rfl) ?_
  refine xget (C := RX7) (T := TX7) (N := 14) 12 hx hb hts hin7 hown I hR.f0 rfl (by decide) (List.mem_of_getElem? (i := 3) rfl) rfl rfl dX7_checkClosable_6 ?_
  refine lv_iload_n hx hb dX7_checkClosable_9 rfl (lv_at hl 1 rfl) ?_
  refine lv_iconst (v := (nI 1)) hx hb dX7_checkClosable_10 (by decide) ?_
  refine lv_iadd hx hb dX7_checkClosable_11 ?_
  refine xtop (y := .int (nI (y1 + 1))) (congrArg Value.int (nI_add _ _)) ?_
  refine lv_bipush (v := (nI 100)) hx hb dX7_checkClosable_12 (by decide) ?_
  refine lv_imul hx hb dX7_checkClosable_14 ?_
  refine xtop (y := .int (nI ((y1 + 1) * 100))) (congrArg Value.int (pk_mul _ _)) ?_
  refine lv_icmp_ge (tgt := 29) hx hb dX7_checkClosable_15 (by decide) (fun c_15 => ?_) (fun c_15 => ?_)
  · skip
    rw [if_pos c_15] at hG
    refine lv_iload_n hx hb dX7_checkClosable_29 rfl (lv_at hl 1 rfl) ?_
    have B58 : fX7_checkClosable_B58 τ y1 = G → ∀ ls : Array Slot, lv_has ls 3 [(0, .ref (ad 0 0)), (1, .int (nI y1))] → W p l e (headSpec wsX7_checkClosable ({ frames := 7, cells := 2, slots := 12, locals := 111 } : Room)).room s m ([.ref (ad 0 0), .int (nI y1)] : List Value).toArray below meth c H locs 1 6 (vx_MQ below (xQ lo D (fun v h' => ∃ x, G = .inr x ∧ v = none ∧ h' = h)) (xXp lo D h (fun En => G = .inl En)) ([.ref (ad 0 0), .int (nI y1)] : List Value).toArray s 2 12 (xA lo)) (F0 m 58 ls []) := by
      intro hG ls hl
      unfold fX7_checkClosable_B58 at hG
      refine lv_iconst (v := (nI 0)) hx hb dX7_checkClosable_58 (by decide) ?_
      refine lv_istore_n (lv' := [(2, .int (nI 0)), (0, .ref (ad 0 0)), (1, .int (nI y1))]) hx hb dX7_checkClosable_59 rfl hl (by decide) rfl (fun ls hl => ?_)
      have L60 : ∀ (n60 : Nat) (k60 : Nat), k60 + n60 = cN τ 3 → fX7_checkClosable_L60 τ y1 n60 k60 = G → ∀ ls : Array Slot, lv_has ls 3 [(0, .ref (ad 0 0)), (1, .int (nI y1)), (2, .int (nI k60))] → W p l e (headSpec wsX7_checkClosable ({ frames := 7, cells := 2, slots := 12, locals := 111 } : Room)).room s m ([.ref (ad 0 0), .int (nI y1)] : List Value).toArray below meth c H locs 1 6 (vx_MQ below (xQ lo D (fun v h' => ∃ x, G = .inr x ∧ v = none ∧ h' = h)) (xXp lo D h (fun En => G = .inl En)) ([.ref (ad 0 0), .int (nI y1)] : List Value).toArray s 2 12 (xA lo)) (F0 m 60 ls []) := by
        intro n60
        induction n60 with
        | zero =>
          intro k60 hkn hG ls hl
          have hkN : k60 = cN τ 3 := by omega
          have hG : (Sum.inr ()) = G := hG
          refine lv_iload_n hx hb dX7_checkClosable_60 rfl (lv_at hl 2 rfl) ?_
          refine lv_aload_n hx hb dX7_checkClosable_61 rfl (lv_at hl 0 rfl) ?_
          refine xget (C := RX7) (T := TX7) (N := 14) 10 hx hb hts hin7 hown I hR.f0 rfl (by decide) (List.mem_of_getElem? (i := 6) rfl) rfl rfl dX7_checkClosable_62 ?_
          refine lv_icmp_ge (tgt := 116) hx hb dX7_checkClosable_65 (by decide) (fun _ => ?_) (fun q => absurd (nI_le (Nat.le_of_eq hkN.symm) (by omega)) q)
          exact xrvX hx hb hr hlocks dX7_checkClosable_116 I hS ⟨_, hG.symm, rfl, rfl⟩ (Nat.le_of_ble_eq_true rfl) (Nat.le_of_ble_eq_true rfl)
        | succ n60 ih =>
          intro k60 hkn hG ls hl
          have hk : k60 < cN τ 3 := by omega
          have hG : lbind ((if (nI ((cK τ 16 (cK τ 13 k60)) / 100)) = (nI y1) then (if (cI τ 26 k60) = 0 then (Sum.inr (Sum.inl "java/lang/IllegalStateException")) else (Sum.inl ())) else (Sum.inl ()))) (fun q => fX7_checkClosable_L60 τ y1 n60 (k60 + 1)) = G := hG
          refine lv_iload_n hx hb dX7_checkClosable_60 rfl (lv_at hl 2 rfl) ?_
          refine lv_aload_n hx hb dX7_checkClosable_61 rfl (lv_at hl 0 rfl) ?_
          refine xget (C := RX7) (T := TX7) (N := 14) 10 hx hb hts hin7 hown I hR.f0 rfl (by decide) (List.mem_of_getElem? (i := 6) rfl) rfl rfl dX7_checkClosable_62 ?_
          refine lv_icmp_ge (tgt := 116) hx hb dX7_checkClosable_65 (by decide) (fun q => absurd q (nI_ge hk (by omega))) (fun _ => ?_)
          refine lv_aload_n hx hb dX7_checkClosable_68 rfl (lv_at hl 0 rfl) ?_
          refine xget (C := RX7) (T := TX7) (N := 14) 3 hx hb hts hin7 hown I hR.f0 rfl (by decide) (List.mem_of_getElem? (i := 7) rfl) rfl rfl dX7_checkClosable_69 ?_
          refine lv_iload_n hx hb dX7_checkClosable_72 rfl (lv_at hl 2 rfl) ?_
          refine xaald (i := k60) (n := 60) 6 hx hb I rfl hR.f4 (by omega) (by decide) (hR.2.2.2.2.2.2.2.1 k60 (show k60 < cN τ 3 by first | assumption | omega)) dX7_checkClosable_73 ?_
          refine W.eq (g2 := F0 m 74 ls [.ref (ad 16 k60)]) rfl ?_
          refine xget (C := RX0) (T := TX0) (N := 8) 2 hx hb hts hin0 hown I (hR.f16 (show k60 < cN τ 3 by first | assumption | omega)) rfl (by decide) (List.mem_of_getElem? (i := 8) rfl) rfl rfl dX7_checkClosable_74 ?_
          have b74_13 : cK τ 13 k60 < cN τ 4 := hW.2.2.2.2.1 k60 (show k60 < cN τ 3 by first | assumption | omega)
          refine xget (C := RX2) (T := TX2) (N := 3) 1 hx hb hts hin2 hown I (hR.f17 (show cK τ 13 k60 < cN τ 4 by first | assumption | omega)) rfl (by decide) (List.mem_of_getElem? (i := 9) rfl) rfl rfl dX7_checkClosable_77 ?_
          have b77_16 : cK τ 16 (cK τ 13 k60) < 2000 := hW.2.2.2.2.2.2.2.1 (cK τ 13 k60) (show cK τ 13 k60 < cN τ 4 by first | assumption | omega)
          refine xcsR (As := [.int (nI (cK τ 16 (cK τ 13 k60)))]) (rest := []) (v := some (.int (nI ((cK τ 16 (cK τ 13 k60)) / 100)))) ⟨hx, hb, hml, hown, hts⟩ (mX7_yearOfDay l lo D E h (cK τ 16 (cK τ 13 k60)) (by first | assumption | omega)) (va_cwS 1 hts gX7_checkClosable_X7_yearOfDay rfl rfl rfl (by decide +kernel) ⟨Nat.le_of_ble_eq_true rfl, Nat.le_of_ble_eq_true rfl⟩) I rfl hl.1 rfl (Nat.le_of_ble_eq_true rfl) dX7_checkClosable_80 ⟨Nat.le_of_ble_eq_true rfl, Nat.le_of_ble_eq_true rfl⟩ ?_
          refine W.eq (g2 := F0 m 83 ls [.int (nI ((cK τ 16 (cK τ 13 k60)) / 100))]) rfl ?_
          refine lv_iload_n hx hb dX7_checkClosable_83 rfl (lv_at hl 1 rfl) ?_
          refine lv_icmp_ne (tgt := 110) hx hb dX7_checkClosable_84 (by decide) (fun c_84 => ?_) (fun c_84 => ?_)
          · skip
            rw [if_neg c_84] at hG
            refine lv_iinc (v := (nI (k60 + 1))) (lv' := [(2, .int (nI (k60 + 1))), (0, .ref (ad 0 0)), (1, .int (nI y1))]) hx hb dX7_checkClosable_110 hl (k := 2) rfl (nI_succ k60).symm (by decide) rfl (fun ls hl => ?_)
            refine lv_goto (tgt := 60) hx hb dX7_checkClosable_113 (by decide) ?_
            exact ih (k60 + 1) (by first | omega | (simp only [cSI_N, cSL_N, cSM_N, cSD_N]; omega)) hG ls (lv_sub hl [1, 2, 0] rfl)
          · skip
            rw [if_pos c_84] at hG
            refine lv_aload_n hx hb dX7_checkClosable_87 rfl (lv_at hl 0 rfl) ?_
            refine xget (C := RX7) (T := TX7) (N := 14) 3 hx hb hts hin7 hown I hR.f0 rfl (by decide) (List.mem_of_getElem? (i := 7) rfl) rfl rfl dX7_checkClosable_88 ?_
            refine lv_iload_n hx hb dX7_checkClosable_91 rfl (lv_at hl 2 rfl) ?_
            refine xaald (i := k60) (n := 60) 6 hx hb I rfl hR.f4 (by omega) (by decide) (hR.2.2.2.2.2.2.2.1 k60 (show k60 < cN τ 3 by first | assumption | omega)) dX7_checkClosable_92 ?_
            refine W.eq (g2 := F0 m 93 ls [.ref (ad 16 k60)]) rfl ?_
            refine xget (C := RX0) (T := TX0) (N := 8) 5 hx hb hts hin0 hown I (hR.f16 (show k60 < cN τ 3 by first | assumption | omega)) rfl (by decide) (List.mem_of_getElem? (i := 10) rfl) rfl rfl dX7_checkClosable_93 ?_
            refine lv_if_ne (tgt := 110) hx hb dX7_checkClosable_96 (by decide) (fun c_96 => ?_) (fun c_96 => ?_)
            · skip
              rw [if_neg c_96] at hG
              refine lv_iinc (v := (nI (k60 + 1))) (lv' := [(2, .int (nI (k60 + 1))), (0, .ref (ad 0 0)), (1, .int (nI y1))]) hx hb dX7_checkClosable_110 hl (k := 2) rfl (nI_succ k60).symm (by decide) rfl (fun ls hl => ?_)
              refine lv_goto (tgt := 60) hx hb dX7_checkClosable_113 (by decide) ?_
              exact ih (k60 + 1) (by first | omega | (simp only [cSI_N, cSL_N, cSM_N, cSD_N]; omega)) hG ls (lv_sub hl [1, 2, 0] rfl)
            · skip
              rw [if_pos c_96] at hG
              exact xthSW (ik := 57) (is := 356) (ic := 61) (X := "java/lang/IllegalStateException") (text := "a claim of the year is not settled") hx hb hlst hown hts (by decide) (List.mem_of_getElem? (i := 1) rfl) (List.mem_of_getElem? (i := 2) rfl) hg61 (by decide) hT0 I hS (hl.1.trans hml.symm) dX7_checkClosable_99 dX7_checkClosable_102 dX7_checkClosable_103 dX7_checkClosable_106 dX7_checkClosable_109 hout (Nat.le_of_ble_eq_true rfl) (Nat.le_of_ble_eq_true rfl) (Nat.le_of_ble_eq_true rfl) (Nat.le_of_ble_eq_true rfl) hlocks hG.symm (Nat.le_of_ble_eq_true rfl) (Nat.le_of_ble_eq_true rfl)
      exact L60 (cN τ 3) 0 (by omega) hG ls (lv_sub hl [1, 2, 0] rfl)
    refine lv_if_le (tgt := 58) hx hb dX7_checkClosable_30 (by decide) (fun c_30 => ?_) (fun c_30 => ?_)
    · skip
      rw [if_pos c_30] at hG
      have d_30 : y1 ≤ 0 := (nI_leI (a := y1) (b := 0) (by omega) (by omega)).mp c_30
      exact B58 hG ls (lv_sub hl [0, 1] rfl)
    · skip
      rw [if_neg c_30] at hG
      have d_30 : ¬ y1 ≤ 0 := fun q => c_30 ((nI_leI (a := y1) (b := 0) (by omega) (by omega)).mpr q)
      refine lv_aload_n hx hb dX7_checkClosable_33 rfl (lv_at hl 0 rfl) ?_
      refine xget (C := RX7) (T := TX7) (N := 14) 5 hx hb hts hin7 hown I hR.f0 rfl (by decide) (List.mem_of_getElem? (i := 4) rfl) rfl rfl dX7_checkClosable_34 ?_
      refine lv_iload_n hx hb dX7_checkClosable_37 rfl (lv_at hl 1 rfl) ?_
      refine lv_iconst (v := (nI 1)) hx hb dX7_checkClosable_38 (by decide) ?_
      refine lv_isub hx hb dX7_checkClosable_39 ?_
      refine xtop (y := .int (nI (y1 - 1))) (congrArg Value.int (pk_sub (a := y1) (b := 1) (by omega))) ?_
      refine xaald (i := (y1 - 1)) (n := 20) 8 hx hb I rfl hR.f6 (by omega) (by decide) (hR.2.2.2.2.2.2.2.2.2 (y1 - 1) (show y1 - 1 < 20 by first | assumption | omega)) dX7_checkClosable_40 ?_
      refine W.eq (g2 := F0 m 41 ls [.ref (ad 18 (y1 - 1))]) rfl ?_
      refine xget (C := RX6) (T := TX6) (N := 7) 2 hx hb hts hin6 hown I (hR.f18 (show y1 - 1 < 20 by first | assumption | omega)) rfl (by decide) (List.mem_of_getElem? (i := 5) rfl) rfl rfl dX7_checkClosable_41 ?_
      refine lv_if_ne (tgt := 58) hx hb dX7_checkClosable_44 (by decide) (fun c_44 => ?_) (fun c_44 => ?_)
      · skip
        rw [if_neg c_44] at hG
        exact B58 hG ls (lv_sub hl [0, 1] rfl)
      · skip
        rw [if_pos c_44] at hG
        exact xthSW (ik := 57) (is := 354) (ic := 61) (X := "java/lang/IllegalStateException") (text := "a year ahead of it is not closed") hx hb hlst hown hts (by decide) (List.mem_of_getElem? (i := 1) rfl) (List.mem_of_getElem? (i := 2) rfl) hg61 (by decide) hT0 I hS (hl.1.trans hml.symm) dX7_checkClosable_47 dX7_checkClosable_50 dX7_checkClosable_51 dX7_checkClosable_54 dX7_checkClosable_57 hout (Nat.le_of_ble_eq_true rfl) (Nat.le_of_ble_eq_true rfl) (Nat.le_of_ble_eq_true rfl) (Nat.le_of_ble_eq_true rfl) hlocks hG.symm (Nat.le_of_ble_eq_true rfl) (Nat.le_of_ble_eq_true rfl)
  · skip
    rw [if_neg c_15] at hG
    exact xthSW (ik := 57) (is := 352) (ic := 61) (X := "java/lang/IllegalStateException") (text := "the year is not over") hx hb hlst hown hts (by decide) (List.mem_of_getElem? (i := 1) rfl) (List.mem_of_getElem? (i := 2) rfl) hg61 (by decide) hT0 I hS (hl.1.trans hml.symm) dX7_checkClosable_18 dX7_checkClosable_21 dX7_checkClosable_22 dX7_checkClosable_25 dX7_checkClosable_28 hout (Nat.le_of_ble_eq_true rfl) (Nat.le_of_ble_eq_true rfl) (Nat.le_of_ble_eq_true rfl) (Nat.le_of_ble_eq_true rfl) hlocks hG.symm (Nat.le_of_ble_eq_true rfl) (Nat.le_of_ble_eq_true rfl)
