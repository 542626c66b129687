def fX7_reserve (τ : CT) : Int64 := (cL τ 0 0)
set_option maxHeartbeats 4000000 in
set_option maxRecDepth 100000 in
theorem mX7_reserve (l : Launch) (lo : Nat) (D : va_G) (E : Nat → ClassId) (h : XW) (Pr : Nat → Prop) (τ : CT) (ad : Nat → Nat → Nat) (fa : Nat → Nat → Option Nat) (hR : RC E Pr τ ad fa h) (hW : CW τ) : Met l yX7_reserve wsX7_reserve ({ frames := 0, cells := 0, slots := 0, locals := 0 } : Room) (xP lo D E h [.ref (ad 0 0)]) (xR (some (.long (fX7_reserve τ)))) 0 0 (fun _ => False) := by
  obtain ⟨G, hG⟩ : ∃ G, fX7_reserve τ = G := ⟨_, rfl⟩
  rw [hG]
  unfold fX7_reserve at hG
  refine Met.ofW (cc := cX7_reserve) (maxL := 1) (ret := (some .long)) (by decide) rfl ?_
  intro p e s m args below meth c s₁ B hml hv
  obtain ⟨rfl, I⟩ := hv
  have hx := B.exec
  have hb := B.bytes
  have hr := B.returns
  have hts := atoms_spec (ws := wsX7_reserve) B.pre
  have hown : s.vm.findClass RX7 = some m.cls := findClass_of_methodNamed B.named
  have hlocks := B.notSynchronized
  have hl := lv_entry ([.ref (ad 0 0)] : List Value) (n := 1) (Nat.le_of_ble_eq_true rfl)
  rw [lg_entry_eq]
  generalize (lg_sl ([.ref (ad 0 0)] : List Value) ++ List.replicate (1 - (lg_sl ([.ref (ad 0 0)] : List Value)).length) Slot.unset).toArray = ls at hl ⊢
  have hl : lv_has ls 1 [(0, .ref (ad 0 0))] := hl
  have hin7 : ∀ w ∈ u_ws RX7 TX7 14, w ∈ wsX7_reserve := fun _ h => List.mem_cons_of_mem _ (List.mem_append_right _ (h))
  have hW0 := hW
  obtain ⟨w0, -⟩ := id hW
  refine lv_aload_n hx hb dX7_reserve_0 rfl (lv_at hl 0 rfl) ?_
  refine xget (C := RX7) (T := TX7) (N := 14) 13 hx hb hts hin7 hown I hR.f0 rfl (by decide) (List.mem_of_getElem? (i := 1) rfl) rfl rfl dX7_reserve_1 ?_
  exact xrlR hx hb hr hlocks dX7_reserve_4 hG

def fX7_weight (τ : CT) (a1 : Int32) (a2 : Int32) : (String ⊕ Int64) := (xbindE (fX7_memberOf τ a1) (fun x2 => (xbindE (fX7_checkYear a2) (fun _ => (Sum.inr (fX7_weightIn τ x2 (tn a2)))))))
set_option maxHeartbeats 4000000 in
set_option maxRecDepth 100000 in
theorem mX7_weight (l : Launch) (lo : Nat) (D : va_G) (E : Nat → ClassId) (h : XW) (hlst : l.stackTraces = false) (Pr : Nat → Prop) (τ : CT) (ad : Nat → Nat → Nat) (fa : Nat → Nat → Option Nat) (hR : RC E Pr τ ad fa h) (hW : CW τ) (a1 : Int32) (a2 : Int32) : vx_Met l yX7_weight wsX7_weight ({ frames := 8, cells := 2, slots := 12, locals := 132 } : Room) (xP lo D E h [.ref (ad 0 0), .int a1, .int a2]) (xQ lo D (fun v h' => ∃ x, (fX7_weight τ a1 a2) = .inr x ∧ v = some (.long x) ∧ h' = h)) (xXp lo D h (fun En => (fX7_weight τ a1 a2) = .inl En)) 2 12 (xA lo) := by
  obtain ⟨G, hG⟩ : ∃ G, fX7_weight τ a1 a2 = G := ⟨_, rfl⟩
  rw [hG]
  unfold fX7_weight at hG
  refine vx_ofW (cc := cX7_weight) (maxL := 4) (ret := (some .long)) (by decide) rfl ?_
  intro p e s m args below meth c s₁ B hml hout hv
  obtain ⟨rfl, I⟩ := hv
  have hx := B.exec
  have hb := B.bytes
  have hr := B.returns
  have hts := atoms_spec (ws := wsX7_weight) B.pre
  have hown : s.vm.findClass RX7 = some m.cls := findClass_of_methodNamed B.named
  have hlocks := B.notSynchronized
  have hl := lv_entry ([.ref (ad 0 0), .int a1, .int a2] : List Value) (n := 4) (Nat.le_of_ble_eq_true rfl)
  rw [lg_entry_eq]
  generalize (lg_sl ([.ref (ad 0 0), .int a1, .int a2] : List Value) ++ List.replicate (4 - (lg_sl ([.ref (ad 0 0), .int a1, .int a2] : List Value)).length) Slot.unset).toArray = ls at hl ⊢
  have hl : lv_has ls 4 [(0, .ref (ad 0 0)), (1, .int a1), (2, .int a2)] := hl
  have hin7 : ∀ w ∈ u_ws RX7 TX7 14, w ∈ wsX7_weight := fun _ h => List.mem_cons_of_mem _ (List.mem_append_left _ (List.mem_append_left _ (List.mem_append_left _ (List.mem_append_left _ (List.mem_append_left _ (List.mem_append_right _ (h)))))))
  have hin3 : ∀ w ∈ u_ws RX3 TX3 5, w ∈ wsX7_weight := fun _ h => List.mem_cons_of_mem _ (List.mem_append_left _ (List.mem_append_left _ (List.mem_append_right _ (h))))
  have hin5 : ∀ w ∈ u_ws RX5 TX5 4, w ∈ wsX7_weight := fun _ h => List.mem_cons_of_mem _ (List.mem_append_left _ (List.mem_append_left _ (List.mem_append_left _ (List.mem_append_right _ (h)))))
  have hin1 : ∀ w ∈ u_ws RX1 TX1 3, w ∈ wsX7_weight := fun _ h => List.mem_cons_of_mem _ (List.mem_append_left _ (List.mem_append_left _ (List.mem_append_left _ (List.mem_append_left _ (List.mem_append_right _ (h))))))
  have hg334 : ∀ w ∈ (vx_atS RX7 334 "java/lang/IndexOutOfBoundsException" xnames).filter goodWord, w ∈ wsX7_weight := fun _ h => List.mem_cons_of_mem _ (List.mem_append_left _ (List.mem_append_right _ (h)))
  have hg177 : ∀ w ∈ (vx_atS RX7 177 "java/lang/IllegalArgumentException" xnames).filter goodWord, w ∈ wsX7_weight := fun _ h => List.mem_cons_of_mem _ (List.mem_append_right _ (h))
  have hW0 := hW
  obtain ⟨w0, -⟩ := id hW
  have hS : va_S (xA lo) s.heap s.heap [] := va_S.rf
  have hT0 : XT lo s s.heap := I.2.2.2.2
  have hF : cF Pr h h := cF.rf
  refine lv_aload_n hx hb dX7_weight_0 rfl (lv_at hl 0 rfl) ?_
  refine lv_iload_n hx hb dX7_weight_1 rfl (lv_at hl 1 rfl) ?_
  refine xcvX (As := [.int a1]) (rest := []) ⟨hx, hb, hml, hown, hts⟩ (mX7_memberOf l lo D E h hlst Pr τ ad fa hR hW a1) (cwV 1 hts gX7_weight_X7_memberOf rfl rfl rfl (by decide +kernel) ⟨Nat.le_of_ble_eq_true rfl, Nat.le_of_ble_eq_true rfl⟩) I hS hR.f0 rfl rfl hl.1 rfl (Nat.le_of_ble_eq_true rfl) dX7_weight_2 ⟨Nat.le_of_ble_eq_true rfl, Nat.le_of_ble_eq_true rfl⟩ hout hlocks (fun En q => by rw [q] at hG; exact hG.symm) ⟨Nat.le_of_ble_eq_true rfl, Nat.le_of_ble_eq_true rfl⟩ (fun v9 hw9 H locs q9 I hS => ?_)
  obtain ⟨x2, e2, q1, q2⟩ := q9
  subst q1
  rw [q2] at I
  rw [e2] at hG
  have hG : (xbindE (fX7_checkYear a2) (fun _ => (Sum.inr (fX7_weightIn τ x2 (tn a2))))) = G := hG
  obtain ⟨l_x2, e_x2⟩ := okc_memberOf hW0 e2
  refine W.eq (g2 := F0 m 5 ls [.ref (ad 10 x2)]) rfl ?_
  refine lv_astore_n (lv' := [(3, .ref (ad 10 x2)), (0, .ref (ad 0 0)), (1, .int a1), (2, .int a2)]) hx hb dX7_weight_5 rfl hl (by decide) rfl (fun ls hl => ?_)
  refine lv_iload_n hx hb dX7_weight_6 rfl (lv_at hl 3 rfl) ?_
  refine xcsX (As := [.int a2]) (rest := []) ⟨hx, hb, hml, hown, hts⟩ (mX7_checkYear l lo D E h hlst a2) (va_cwS 1 hts gX7_weight_X7_checkYear rfl rfl rfl (by decide +kernel) ⟨Nat.le_of_ble_eq_true rfl, Nat.le_of_ble_eq_true rfl⟩) I hS rfl hl.1 rfl (Nat.le_of_ble_eq_true rfl) dX7_weight_7 ⟨Nat.le_of_ble_eq_true rfl, Nat.le_of_ble_eq_true rfl⟩ hout hlocks (fun En q => by rw [q] at hG; exact hG.symm) ⟨Nat.le_of_ble_eq_true rfl, Nat.le_of_ble_eq_true rfl⟩ (fun v9 hw9 H locs q9 I hS => ?_)
  obtain ⟨x7, e7, q1, q2⟩ := q9
  subst q1
  rw [q2] at I
  rw [e7] at hG
  have hG : (Sum.inr (fX7_weightIn τ x2 (tn a2))) = G := hG
  obtain ⟨e_a2, l_a2⟩ := okc_checkYear e7
  refine W.eq (g2 := F0 m 10 ls []) rfl ?_
  refine lv_aload_n hx hb dX7_weight_10 rfl (lv_at hl 1 rfl) ?_
  refine lv_aload_n hx hb dX7_weight_11 rfl (lv_at hl 0 rfl) ?_
  refine lv_iload_n hx hb dX7_weight_12 rfl (lv_at hl 3 rfl) ?_
  refine xtop (y := .int (nI (tn a2))) (congrArg Value.int e_a2) ?_
  refine xcvR (As := [.ref (ad 10 x2), .int (nI (tn a2))]) (rest := []) (v := some (.long (fX7_weightIn τ x2 (tn a2)))) ⟨hx, hb, hml, hown, hts⟩ (mX7_weightIn l lo D E h Pr τ ad fa hR hW x2 (tn a2) (show x2 < cN τ 0 by first | assumption | omega) (by first | assumption | omega)) (cwV 2 hts gX7_weight_X7_weightIn rfl rfl rfl (by decide +kernel) ⟨Nat.le_of_ble_eq_true rfl, Nat.le_of_ble_eq_true rfl⟩) I hR.f0 rfl rfl hl.1 rfl (Nat.le_of_ble_eq_true rfl) dX7_weight_13 ⟨Nat.le_of_ble_eq_true rfl, Nat.le_of_ble_eq_true rfl⟩ ?_
  refine W.eq (g2 := F0 m 16 ls [.long (fX7_weightIn τ x2 (tn a2))]) rfl ?_
  exact xrlX hx hb hr hlocks dX7_weight_16 I hS ⟨_, hG.symm, rfl, rfl⟩ (Nat.le_of_ble_eq_true rfl) (Nat.le_of_ble_eq_true rfl)

def fX7_ofClaim (τ : CT) (a1 : Int32) (a2 : Int32) : (String ⊕ Int64) := (xbindE (fX7_claimOf τ a1) (fun x2 => (xbindE (fX7_checkRange a2 (nI 0) (nI 5)) (fun _ => (if tn a2 = 0 then (Sum.inr ((cI τ 24 x2).toInt64)) else (if tn a2 = 1 then (Sum.inr ((cI τ 29 (cK τ 13 x2)).toInt64)) else (if tn a2 = 2 then (if (fX7_isCovered τ x2) = 0 then (Sum.inr (0 : Int64)) else (Sum.inr (1 : Int64))) else (if tn a2 = 3 then (if (cI τ 26 x2) = 0 then (Sum.inr (0 : Int64)) else (Sum.inr (1 : Int64))) else (if tn a2 = 4 then (Sum.inr ((cI τ 25 x2).toInt64)) else (if (fX7_isCovered τ x2) = 0 then (Sum.inr (0 : Int64)) else (Sum.inr ((fX0_limitedLoss τ x2).toInt64))))))))))))
set_option maxHeartbeats 4000000 in
set_option maxRecDepth 100000 in
theorem mX7_ofClaim (l : Launch) (lo : Nat) (D : va_G) (E : Nat → ClassId) (h : XW) (hlst : l.stackTraces = false) (Pr : Nat → Prop) (τ : CT) (ad : Nat → Nat → Nat) (fa : Nat → Nat → Option Nat) (hR : RC E Pr τ ad fa h) (hW : CW τ) (a1 : Int32) (a2 : Int32) : vx_Met l yX7_ofClaim wsX7_ofClaim ({ frames := 7, cells := 2, slots := 12, locals := 112 } : Room) (xP lo D E h [.ref (ad 0 0), .int a1, .int a2]) (xQ lo D (fun v h' => ∃ x, (fX7_ofClaim τ a1 a2) = .inr x ∧ v = some (.long x) ∧ h' = h)) (xXp lo D h (fun En => (fX7_ofClaim τ a1 a2) = .inl En)) 2 12 (xA lo) := by
  obtain ⟨G, hG⟩ : ∃ G, fX7_ofClaim τ a1 a2 = G := ⟨_, rfl⟩
  rw [hG]
  unfold fX7_ofClaim at hG
  refine vx_ofW (cc := cX7_ofClaim) (maxL := 4) (ret := (some .long)) (by decide) rfl ?_
  intro p e s m args below meth c s₁ B hml hout hv
  obtain ⟨rfl, I⟩ := hv
  have hx := B.exec
  have hb := B.bytes
  have hr := B.returns
  have hts := atoms_spec (ws := wsX7_ofClaim) B.pre
  have hown : s.vm.findClass RX7 = some m.cls := findClass_of_methodNamed B.named
  have hlocks := B.notSynchronized
  have hl := lv_entry ([.ref (ad 0 0), .int a1, .int a2] : List Value) (n := 4) (Nat.le_of_ble_eq_true rfl)
  rw [lg_entry_eq]
  generalize (lg_sl ([.ref (ad 0 0), .int a1, .int a2] : List Value) ++ List.replicate (4 - (lg_sl ([.ref (ad 0 0), .int a1, .int a2] : List Value)).length) Slot.unset).toArray = ls at hl ⊢
  have hl : lv_has ls 4 [(0, .ref (ad 0 0)), (1, .int a1), (2, .int a2)] := hl
  have hin7 : ∀ w ∈ u_ws RX7 TX7 14, w ∈ wsX7_ofClaim := fun _ h => List.mem_cons_of_mem _ (List.mem_append_left _ (List.mem_append_left _ (List.mem_append_left _ (List.mem_append_left _ (List.mem_append_left _ (List.mem_append_left _ (List.mem_append_right _ (h))))))))
  have hin3 : ∀ w ∈ u_ws RX3 TX3 5, w ∈ wsX7_ofClaim := fun _ h => List.mem_cons_of_mem _ (List.mem_append_left _ (List.mem_append_left _ (List.mem_append_left _ (List.mem_append_right _ (h)))))
  have hin5 : ∀ w ∈ u_ws RX5 TX5 4, w ∈ wsX7_ofClaim := fun _ h => List.mem_cons_of_mem _ (List.mem_append_left _ (List.mem_append_left _ (List.mem_append_left _ (List.mem_append_left _ (List.mem_append_right _ (h))))))
  have hin1 : ∀ w ∈ u_ws RX1 TX1 3, w ∈ wsX7_ofClaim := fun _ h => List.mem_cons_of_mem _ (List.mem_append_left _ (List.mem_append_left _ (List.mem_append_right _ (h))))
  have hin0 : ∀ w ∈ u_ws RX0 TX0 8, w ∈ wsX7_ofClaim := fun _ h => List.mem_cons_of_mem _ (List.mem_append_left _ (List.mem_append_left _ (List.mem_append_left _ (List.mem_append_left _ (List.mem_append_left _ (List.mem_append_left _ (List.mem_append_left _ (List.mem_append_left _ (List.mem_append_right _ (h))))))))))
  have hin2 : ∀ w ∈ u_ws RX2 TX2 3, w ∈ wsX7_ofClaim := fun _ h => List.mem_cons_of_mem _ (List.mem_append_left _ (List.mem_append_left _ (List.mem_append_left _ (List.mem_append_left _ (List.mem_append_left _ (List.mem_append_left _ (List.mem_append_left _ (List.mem_append_right _ (h)))))))))
  have hin6 : ∀ w ∈ u_ws RX6 TX6 7, w ∈ wsX7_ofClaim := fun _ h => List.mem_cons_of_mem _ (List.mem_append_left _ (List.mem_append_left _ (List.mem_append_left _ (List.mem_append_left _ (List.mem_append_left _ (List.mem_append_right _ (h)))))))
  have hg334 : ∀ w ∈ (vx_atS RX7 334 "java/lang/IndexOutOfBoundsException" xnames).filter goodWord, w ∈ wsX7_ofClaim := fun _ h => List.mem_cons_of_mem _ (List.mem_append_left _ (List.mem_append_right _ (h)))
  have hg177 : ∀ w ∈ (vx_atS RX7 177 "java/lang/IllegalArgumentException" xnames).filter goodWord, w ∈ wsX7_ofClaim := fun _ h => List.mem_cons_of_mem _ (List.mem_append_right _ (h))
  have hW0 := hW
  obtain ⟨w0, -⟩ := id hW
  have hS : va_S (xA lo) s.heap s.heap [] := va_S.rf
  have hT0 : XT lo s s.heap := I.2.2.2.2
  have hF : cF Pr h h := cF.rf
  refine lv_aload_n hx hb dX7_ofClaim_0 rfl (lv_at hl 0 rfl) ?_
  refine lv_iload_n hx hb dX7_ofClaim_1 rfl (lv_at hl 1 rfl) ?_
  refine xcvX (As := [.int a1]) (rest := []) ⟨hx, hb, hml, hown, hts⟩ (mX7_claimOf l lo D E h hlst Pr τ ad fa hR hW a1) (cwV 1 hts gX7_ofClaim_X7_claimOf rfl rfl rfl (by decide +kernel) ⟨Nat.le_of_ble_eq_true rfl, Nat.le_of_ble_eq_true rfl⟩) I hS hR.f0 rfl rfl hl.1 rfl (Nat.le_of_ble_eq_true rfl) dX7_ofClaim_2 ⟨Nat.le_of_ble_eq_true rfl, Nat.le_of_ble_eq_true rfl⟩ hout hlocks (fun En q => by rw [q] at hG; exact hG.symm) ⟨Nat.le_of_ble_eq_true rfl, Nat.le_of_ble_eq_true rfl⟩ (fun v9 hw9 H locs q9 I hS => ?_)
  obtain ⟨x2, e2, q1, q2⟩ := q9
  subst q1
  rw [q2] at I
  rw [e2] at hG
  have hG : (xbindE (fX7_checkRange a2 (nI 0) (nI 5)) (fun _ => (if tn a2 = 0 then (Sum.inr ((cI τ 24 x2).toInt64)) else (if tn a2 = 1 then (Sum.inr ((cI τ 29 (cK τ 13 x2)).toInt64)) else (if tn a2 = 2 then (if (fX7_isCovered τ x2) = 0 then (Sum.inr (0 : Int64)) else (Sum.inr (1 : Int64))) else (if tn a2 = 3 then (if (cI τ 26 x2) = 0 then (Sum.inr (0 : Int64)) else (Sum.inr (1 : Int64))) else (if tn a2 = 4 then (Sum.inr ((cI τ 25 x2).toInt64)) else (if (fX7_isCovered τ x2) = 0 then (Sum.inr (0 : Int64)) else (Sum.inr ((fX0_limitedLoss τ x2).toInt64)))))))))) = G := hG
  obtain ⟨l_x2, e_x2⟩ := okc_claimOf hW0 e2
  refine W.eq (g2 := F0 m 5 ls [.ref (ad 16 x2)]) rfl ?_
  refine lv_astore_n (lv' := [(3, .ref (ad 16 x2)), (0, .ref (ad 0 0)), (1, .int a1), (2, .int a2)]) hx hb dX7_ofClaim_5 rfl hl (by decide) rfl (fun ls hl => ?_)
  refine lv_iload_n hx hb dX7_ofClaim_6 rfl (lv_at hl 3 rfl) ?_
  refine lv_iconst (v := (nI 0)) hx hb dX7_ofClaim_7 (by decide) ?_
  refine lv_iconst (v := (nI 5)) hx hb dX7_ofClaim_8 (by decide) ?_
  refine xcsX (As := [.int a2, .int (nI 0), .int (nI 5)]) (rest := []) ⟨hx, hb, hml, hown, hts⟩ (mX7_checkRange l lo D E h hlst a2 (nI 0) (nI 5)) (va_cwS 3 hts gX7_ofClaim_X7_checkRange rfl rfl rfl (by decide +kernel) ⟨Nat.le_of_ble_eq_true rfl, Nat.le_of_ble_eq_true rfl⟩) I hS rfl hl.1 rfl (Nat.le_of_ble_eq_true rfl) dX7_ofClaim_9 ⟨Nat.le_of_ble_eq_true rfl, Nat.le_of_ble_eq_true rfl⟩ hout hlocks (fun En q => by rw [q] at hG; exact hG.symm) ⟨Nat.le_of_ble_eq_true rfl, Nat.le_of_ble_eq_true rfl⟩ (fun v9 hw9 H locs q9 I hS => ?_)
  obtain ⟨x9, e9, q1, q2⟩ := q9
  subst q1
  rw [q2] at I
  rw [e9] at hG
  have hG : (if tn a2 = 0 then (Sum.inr ((cI τ 24 x2).toInt64)) else (if tn a2 = 1 then (Sum.inr ((cI τ 29 (cK τ 13 x2)).toInt64)) else (if tn a2 = 2 then (if (fX7_isCovered τ x2) = 0 then (Sum.inr (0 : Int64)) else (Sum.inr (1 : Int64))) else (if tn a2 = 3 then (if (cI τ 26 x2) = 0 then (Sum.inr (0 : Int64)) else (Sum.inr (1 : Int64))) else (if tn a2 = 4 then (Sum.inr ((cI τ 25 x2).toInt64)) else (if (fX7_isCovered τ x2) = 0 then (Sum.inr (0 : Int64)) else (Sum.inr ((fX0_limitedLoss τ x2).toInt64)))))))) = G := hG
  obtain ⟨e_a2, l_a2⟩ := okc_checkRange (by omega) e9
  refine W.eq (g2 := F0 m 12 ls []) rfl ?_
  refine lv_iload_n hx hb dX7_ofClaim_12 rfl (lv_at hl 3 rfl) ?_
  refine xtop (y := .int (nI (tn a2))) (congrArg Value.int e_a2) ?_
  by_cases t13_0 : tn a2 = 0
  · rw [if_pos t13_0] at hG
    refine xtop (y := .int (nI 0)) (by rw [t13_0]) ?_
    refine lv_tableIn (off := 35) (tgt := 48) hx hb dX7_ofClaim_13 (by decide) (by decide) (by decide) (by decide) ?_
    refine lv_aload_n hx hb dX7_ofClaim_48 rfl (lv_at hl 0 rfl) ?_
    refine xget (C := RX0) (T := TX0) (N := 8) 3 hx hb hts hin0 hown I (hR.f16 (show x2 < cN τ 3 by first | assumption | omega)) rfl (by decide) (List.mem_of_getElem? (i := 1) rfl) rfl rfl dX7_ofClaim_49 ?_
    refine lv_i2l (v := (cI τ 24 x2).toInt64) hx hb dX7_ofClaim_52 rfl ?_
    exact xrlX hx hb hr hlocks dX7_ofClaim_53 I hS ⟨_, hG.symm, rfl, rfl⟩ (Nat.le_of_ble_eq_true rfl) (Nat.le_of_ble_eq_true rfl)
  rw [if_neg t13_0] at hG
  by_cases t13_1 : tn a2 = 1
  · rw [if_pos t13_1] at hG
    refine xtop (y := .int (nI 1)) (by rw [t13_1]) ?_
    refine lv_tableIn (off := 41) (tgt := 54) hx hb dX7_ofClaim_13 (by decide) (by decide) (by decide) (by decide) ?_
    refine lv_aload_n hx hb dX7_ofClaim_54 rfl (lv_at hl 0 rfl) ?_
    refine xget (C := RX0) (T := TX0) (N := 8) 2 hx hb hts hin0 hown I (hR.f16 (show x2 < cN τ 3 by first | assumption | omega)) rfl (by decide) (List.mem_of_getElem? (i := 2) rfl) rfl rfl dX7_ofClaim_55 ?_
    have b55_13 : cK τ 13 x2 < cN τ 4 := hW.2.2.2.2.1 x2 (show x2 < cN τ 3 by first | assumption | omega)
    refine xget (C := RX2) (T := TX2) (N := 3) 0 hx hb hts hin2 hown I (hR.f17 (show cK τ 13 x2 < cN τ 4 by first | assumption | omega)) rfl (by decide) (List.mem_of_getElem? (i := 3) rfl) rfl rfl dX7_ofClaim_58 ?_
    refine lv_i2l (v := (cI τ 29 (cK τ 13 x2)).toInt64) hx hb dX7_ofClaim_61 rfl ?_
    exact xrlX hx hb hr hlocks dX7_ofClaim_62 I hS ⟨_, hG.symm, rfl, rfl⟩ (Nat.le_of_ble_eq_true rfl) (Nat.le_of_ble_eq_true rfl)
  rw [if_neg t13_1] at hG
  by_cases t13_2 : tn a2 = 2
  · rw [if_pos t13_2] at hG
    refine xtop (y := .int (nI 2)) (by rw [t13_2]) ?_
    refine lv_tableIn (off := 50) (tgt := 63) hx hb dX7_ofClaim_13 (by decide) (by decide) (by decide) (by decide) ?_
    refine lv_aload_n hx hb dX7_ofClaim_63 rfl (lv_at hl 1 rfl) ?_
    refine lv_aload_n hx hb dX7_ofClaim_64 rfl (lv_at hl 0 rfl) ?_
    refine xcvR (As := [.ref (ad 16 x2)]) (rest := []) (v := some (.int (fX7_isCovered τ x2))) ⟨hx, hb, hml, hown, hts⟩ (mX7_isCovered l lo D E h Pr τ ad fa hR hW x2 (show x2 < cN τ 3 by first | assumption | omega)) (cwV 1 hts gX7_ofClaim_X7_isCovered rfl rfl rfl (by decide +kernel) ⟨Nat.le_of_ble_eq_true rfl, Nat.le_of_ble_eq_true rfl⟩) I hR.f0 rfl rfl hl.1 rfl (Nat.le_of_ble_eq_true rfl) dX7_ofClaim_65 ⟨Nat.le_of_ble_eq_true rfl, Nat.le_of_ble_eq_true rfl⟩ ?_
    refine W.eq (g2 := F0 m 68 ls [.int (fX7_isCovered τ x2)]) rfl ?_
    refine lv_if_eq (tgt := 75) hx hb dX7_ofClaim_68 (by decide) (fun c_68 => ?_) (fun c_68 => ?_)
    · skip
      rw [if_pos c_68] at hG
      refine lv_lconst (v := (0 : Int64)) hx hb dX7_ofClaim_75 rfl ?_
      exact xrlX hx hb hr hlocks dX7_ofClaim_76 I hS ⟨_, hG.symm, rfl, rfl⟩ (Nat.le_of_ble_eq_true rfl) (Nat.le_of_ble_eq_true rfl)
    · skip
      rw [if_neg c_68] at hG
      refine lv_lconst (v := (1 : Int64)) hx hb dX7_ofClaim_71 rfl ?_
      refine lv_goto (tgt := 76) hx hb dX7_ofClaim_72 (by decide) ?_
      exact xrlX hx hb hr hlocks dX7_ofClaim_76 I hS ⟨_, hG.symm, rfl, rfl⟩ (Nat.le_of_ble_eq_true rfl) (Nat.le_of_ble_eq_true rfl)
  rw [if_neg t13_2] at hG
  by_cases t13_3 : tn a2 = 3
  · rw [if_pos t13_3] at hG
    refine xtop (y := .int (nI 3)) (by rw [t13_3]) ?_
    refine lv_tableIn (off := 64) (tgt := 77) hx hb dX7_ofClaim_13 (by decide) (by decide) (by decide) (by decide) ?_
    refine lv_aload_n hx hb dX7_ofClaim_77 rfl (lv_at hl 0 rfl) ?_
    refine xget (C := RX0) (T := TX0) (N := 8) 5 hx hb hts hin0 hown I (hR.f16 (show x2 < cN τ 3 by first | assumption | omega)) rfl (by decide) (List.mem_of_getElem? (i := 4) rfl) rfl rfl dX7_ofClaim_78 ?_
    refine lv_if_eq (tgt := 88) hx hb dX7_ofClaim_81 (by decide) (fun c_81 => ?_) (fun c_81 => ?_)
    · skip
      rw [if_pos c_81] at hG
      refine lv_lconst (v := (0 : Int64)) hx hb dX7_ofClaim_88 rfl ?_
      exact xrlX hx hb hr hlocks dX7_ofClaim_89 I hS ⟨_, hG.symm, rfl, rfl⟩ (Nat.le_of_ble_eq_true rfl) (Nat.le_of_ble_eq_true rfl)
    · skip
      rw [if_neg c_81] at hG
      refine lv_lconst (v := (1 : Int64)) hx hb dX7_ofClaim_84 rfl ?_
      refine lv_goto (tgt := 89) hx hb dX7_ofClaim_85 (by decide) ?_
      exact xrlX hx hb hr hlocks dX7_ofClaim_89 I hS ⟨_, hG.symm, rfl, rfl⟩ (Nat.le_of_ble_eq_true rfl) (Nat.le_of_ble_eq_true rfl)
  rw [if_neg t13_3] at hG
  by_cases t13_4 : tn a2 = 4
  · rw [if_pos t13_4] at hG
    refine xtop (y := .int (nI 4)) (by rw [t13_4]) ?_
    refine lv_tableIn (off := 77) (tgt := 90) hx hb dX7_ofClaim_13 (by decide) (by decide) (by decide) (by decide) ?_
    refine lv_aload_n hx hb dX7_ofClaim_90 rfl (lv_at hl 0 rfl) ?_
    refine xget (C := RX0) (T := TX0) (N := 8) 4 hx hb hts hin0 hown I (hR.f16 (show x2 < cN τ 3 by first | assumption | omega)) rfl (by decide) (List.mem_of_getElem? (i := 5) rfl) rfl rfl dX7_ofClaim_91 ?_
    refine lv_i2l (v := (cI τ 25 x2).toInt64) hx hb dX7_ofClaim_94 rfl ?_
    exact xrlX hx hb hr hlocks dX7_ofClaim_95 I hS ⟨_, hG.symm, rfl, rfl⟩ (Nat.le_of_ble_eq_true rfl) (Nat.le_of_ble_eq_true rfl)
  rw [if_neg t13_4] at hG
  refine lv_tableOut (tgt := 96) hx hb dX7_ofClaim_13 (Or.inr (by rw [nI_toInt (by omega)]; omega)) (by decide) ?_
  refine lv_aload_n hx hb dX7_ofClaim_96 rfl (lv_at hl 1 rfl) ?_
  refine lv_aload_n hx hb dX7_ofClaim_97 rfl (lv_at hl 0 rfl) ?_
  refine xcvR (As := [.ref (ad 16 x2)]) (rest := []) (v := some (.int (fX7_isCovered τ x2))) ⟨hx, hb, hml, hown, hts⟩ (mX7_isCovered l lo D E h Pr τ ad fa hR hW x2 (show x2 < cN τ 3 by first | assumption | omega)) (cwV 1 hts gX7_ofClaim_X7_isCovered rfl rfl rfl (by decide +kernel) ⟨Nat.le_of_ble_eq_true rfl, Nat.le_of_ble_eq_true rfl⟩) I hR.f0 rfl rfl hl.1 rfl (Nat.le_of_ble_eq_true rfl) dX7_ofClaim_98 ⟨Nat.le_of_ble_eq_true rfl, Nat.le_of_ble_eq_true rfl⟩ ?_
  refine W.eq (g2 := F0 m 101 ls [.int (fX7_isCovered τ x2)]) rfl ?_
  refine lv_if_eq (tgt := 112) hx hb dX7_ofClaim_101 (by decide) (fun c_101 => ?_) (fun c_101 => ?_)
  · skip
    rw [if_pos c_101] at hG
    refine lv_lconst (v := (0 : Int64)) hx hb dX7_ofClaim_112 rfl ?_
    exact xrlX hx hb hr hlocks dX7_ofClaim_113 I hS ⟨_, hG.symm, rfl, rfl⟩ (Nat.le_of_ble_eq_true rfl) (Nat.le_of_ble_eq_true rfl)
  · skip
    rw [if_neg c_101] at hG
    refine lv_aload_n hx hb dX7_ofClaim_104 rfl (lv_at hl 0 rfl) ?_
    refine xcvR (As := []) (rest := []) (v := some (.int (fX0_limitedLoss τ x2))) ⟨hx, hb, hml, hown, hts⟩ (mX0_limitedLoss l lo D E h Pr τ ad fa hR hW x2 (show x2 < cN τ 3 by first | assumption | omega)) (cwV 0 hts gX7_ofClaim_X0_limitedLoss rfl rfl rfl (by decide +kernel) ⟨Nat.le_of_ble_eq_true rfl, Nat.le_of_ble_eq_true rfl⟩) I (hR.f16 (show x2 < cN τ 3 by first | assumption | omega)) rfl rfl hl.1 rfl (Nat.le_of_ble_eq_true rfl) dX7_ofClaim_105 ⟨Nat.le_of_ble_eq_true rfl, Nat.le_of_ble_eq_true rfl⟩ ?_
    refine W.eq (g2 := F0 m 108 ls [.int (fX0_limitedLoss τ x2)]) rfl ?_
    refine lv_i2l (v := (fX0_limitedLoss τ x2).toInt64) hx hb dX7_ofClaim_108 rfl ?_
    refine lv_goto (tgt := 113) hx hb dX7_ofClaim_109 (by decide) ?_
    exact xrlX hx hb hr hlocks dX7_ofClaim_113 I hS ⟨_, hG.symm, rfl, rfl⟩ (Nat.le_of_ble_eq_true rfl) (Nat.le_of_ble_eq_true rfl)

def fX7_ofEvent (τ : CT) (a1 : Int32) (a2 : Int32) : (String ⊕ Int64) := (xbindE (fX7_eventOf τ a1) (fun x2 => (xbindE (fX7_checkRange a2 (nI 0) (nI 3)) (fun _ => (if tn a2 = 0 then (Sum.inr (fX7_costOf τ x2)) else (if tn a2 = 1 then (Sum.inr (fX7_borneOf τ x2)) else (if tn a2 = 2 then (Sum.inr ((nI (cK τ 16 x2)).toInt64)) else (Sum.inr ((cI τ 30 x2).toInt64)))))))))
set_option maxHeartbeats 4000000 in
set_option maxRecDepth 100000 in
theorem mX7_ofEvent (l : Launch) (lo : Nat) (D : va_G) (E : Nat → ClassId) (h : XW) (hlst : l.stackTraces = false) (Pr : Nat → Prop) (τ : CT) (ad : Nat → Nat → Nat) (fa : Nat → Nat → Option Nat) (hR : RC E Pr τ ad fa h) (hW : CW τ) (a1 : Int32) (a2 : Int32) : vx_Met l yX7_ofEvent wsX7_ofEvent ({ frames := 7, cells := 2, slots := 12, locals := 117 } : Room) (xP lo D E h [.ref (ad 0 0), .int a1, .int a2]) (xQ lo D (fun v h' => ∃ x, (fX7_ofEvent τ a1 a2) = .inr x ∧ v = some (.long x) ∧ h' = h)) (xXp lo D h (fun En => (fX7_ofEvent τ a1 a2) = .inl En)) 2 12 (xA lo) := by
  obtain ⟨G, hG⟩ : ∃ G, fX7_ofEvent τ a1 a2 = G := ⟨_, rfl⟩
  rw [hG]
  unfold fX7_ofEvent at hG
  refine vx_ofW (cc := cX7_ofEvent) (maxL := 4) (ret := (some .long)) (by decide) rfl ?_
  intro p e s m args below meth c s₁ B hml hout hv
  obtain ⟨rfl, I⟩ := hv
  have hx := B.exec
  have hb := B.bytes
  have hr := B.returns
  have hts := atoms_spec (ws := wsX7_ofEvent) B.pre
  have hown : s.vm.findClass RX7 = some m.cls := findClass_of_methodNamed B.named
  have hlocks := B.notSynchronized
  have hl := lv_entry ([.ref (ad 0 0), .int a1, .int a2] : List Value) (n := 4) (Nat.le_of_ble_eq_true rfl)
  rw [lg_entry_eq]
  generalize (lg_sl ([.ref (ad 0 0), .int a1, .int a2] : List Value) ++ List.replicate (4 - (lg_sl ([.ref (ad 0 0), .int a1, .int a2] : List Value)).length) Slot.unset).toArray = ls at hl ⊢
  have hl : lv_has ls 4 [(0, .ref (ad 0 0)), (1, .int a1), (2, .int a2)] := hl
  have hin7 : ∀ w ∈ u_ws RX7 TX7 14, w ∈ wsX7_ofEvent := fun _ h => List.mem_cons_of_mem _ (List.mem_append_left _ (List.mem_append_left _ (List.mem_append_left _ (List.mem_append_left _ (List.mem_append_left _ (List.mem_append_left _ (List.mem_append_left _ (List.mem_append_left _ (List.mem_append_right _ (h))))))))))
  have hin4 : ∀ w ∈ u_ws RX4 TX4 2, w ∈ wsX7_ofEvent := fun _ h => List.mem_cons_of_mem _ (List.mem_append_left _ (List.mem_append_left _ (List.mem_append_right _ (h))))
  have hin3 : ∀ w ∈ u_ws RX3 TX3 5, w ∈ wsX7_ofEvent := fun _ h => List.mem_cons_of_mem _ (List.mem_append_left _ (List.mem_append_left _ (List.mem_append_left _ (List.mem_append_left _ (List.mem_append_right _ (h))))))
  have hin5 : ∀ w ∈ u_ws RX5 TX5 4, w ∈ wsX7_ofEvent := fun _ h => List.mem_cons_of_mem _ (List.mem_append_left _ (List.mem_append_left _ (List.mem_append_left _ (List.mem_append_left _ (List.mem_append_left _ (List.mem_append_right _ (h)))))))
  have hin1 : ∀ w ∈ u_ws RX1 TX1 3, w ∈ wsX7_ofEvent := fun _ h => List.mem_cons_of_mem _ (List.mem_append_left _ (List.mem_append_left _ (List.mem_append_left _ (List.mem_append_right _ (h)))))
  have hin0 : ∀ w ∈ u_ws RX0 TX0 8, w ∈ wsX7_ofEvent := fun _ h => List.mem_cons_of_mem _ (List.mem_append_left _ (List.mem_append_left _ (List.mem_append_left _ (List.mem_append_left _ (List.mem_append_left _ (List.mem_append_left _ (List.mem_append_left _ (List.mem_append_right _ (h)))))))))
  have hin2 : ∀ w ∈ u_ws RX2 TX2 3, w ∈ wsX7_ofEvent := fun _ h => List.mem_cons_of_mem _ (List.mem_append_left _ (List.mem_append_left _ (List.mem_append_left _ (List.mem_append_left _ (List.mem_append_left _ (List.mem_append_left _ (List.mem_append_left _ (List.mem_append_left _ (List.mem_append_left _ (List.mem_append_right _ (h)))))))))))
  have hin6 : ∀ w ∈ u_ws RX6 TX6 7, w ∈ wsX7_ofEvent := fun _ h => List.mem_cons_of_mem _ (List.mem_append_left _ (List.mem_append_left _ (List.mem_append_left _ (List.mem_append_left _ (List.mem_append_left _ (List.mem_append_left _ (List.mem_append_right _ (h))))))))
  have hg334 : ∀ w ∈ (vx_atS RX7 334 "java/lang/IndexOutOfBoundsException" xnames).filter goodWord, w ∈ wsX7_ofEvent := fun _ h => List.mem_cons_of_mem _ (List.mem_append_left _ (List.mem_append_right _ (h)))
  have hg177 : ∀ w ∈ (vx_atS RX7 177 "java/lang/IllegalArgumentException" xnames).filter goodWord, w ∈ wsX7_ofEvent := fun _ h => List.mem_cons_of_mem _ (List.mem_append_right _ (h))
  have hW0 := hW
  obtain ⟨w0, -⟩ := id hW
  have hS : va_S (xA lo) s.heap s.heap [] := va_S.rf
  have hT0 : XT lo s s.heap := I.2.2.2.2
  have hF : cF Pr h h := cF.rf
  refine lv_aload_n hx hb dX7_ofEvent_0 rfl (lv_at hl 0 rfl) ?_
  refine lv_iload_n hx hb dX7_ofEvent_1 rfl (lv_at hl 1 rfl) ?_
  refine xcvX (As := [.int a1]) (rest := []) ⟨hx, hb, hml, hown, hts⟩ (mX7_eventOf l lo D E h hlst Pr τ ad fa hR hW a1) (cwV 1 hts gX7_ofEvent_X7_eventOf rfl rfl rfl (by decide +kernel) ⟨Nat.le_of_ble_eq_true rfl, Nat.le_of_ble_eq_true rfl⟩) I hS hR.f0 rfl rfl hl.1 rfl (Nat.le_of_ble_eq_true rfl) dX7_ofEvent_2 ⟨Nat.le_of_ble_eq_true rfl, Nat.le_of_ble_eq_true rfl⟩ hout hlocks (fun En q => by rw [q] at hG; exact hG.symm) ⟨Nat.le_of_ble_eq_true rfl, Nat.le_of_ble_eq_true rfl⟩ (fun v9 hw9 H locs q9 I hS => ?_)
  obtain ⟨x2, e2, q1, q2⟩ := q9
  subst q1
  rw [q2] at I
  rw [e2] at hG
  have hG : (xbindE (fX7_checkRange a2 (nI 0) (nI 3)) (fun _ => (if tn a2 = 0 then (Sum.inr (fX7_costOf τ x2)) else (if tn a2 = 1 then (Sum.inr (fX7_borneOf τ x2)) else (if tn a2 = 2 then (Sum.inr ((nI (cK τ 16 x2)).toInt64)) else (Sum.inr ((cI τ 30 x2).toInt64))))))) = G := hG
  obtain ⟨l_x2, e_x2⟩ := okc_eventOf hW0 e2
  refine W.eq (g2 := F0 m 5 ls [.ref (ad 17 x2)]) rfl ?_
  refine lv_astore_n (lv' := [(3, .ref (ad 17 x2)), (0, .ref (ad 0 0)), (1, .int a1), (2, .int a2)]) hx hb dX7_ofEvent_5 rfl hl (by decide) rfl (fun ls hl => ?_)
  refine lv_iload_n hx hb dX7_ofEvent_6 rfl (lv_at hl 3 rfl) ?_
  refine lv_iconst (v := (nI 0)) hx hb dX7_ofEvent_7 (by decide) ?_
  refine lv_iconst (v := (nI 3)) hx hb dX7_ofEvent_8 (by decide) ?_
  refine xcsX (As := [.int a2, .int (nI 0), .int (nI 3)]) (rest := []) ⟨hx, hb, hml, hown, hts⟩ (mX7_checkRange l lo D E h hlst a2 (nI 0) (nI 3)) (va_cwS 3 hts gX7_ofEvent_X7_checkRange rfl rfl rfl (by decide +kernel) ⟨Nat.le_of_ble_eq_true rfl, Nat.le_of_ble_eq_true rfl⟩) I hS rfl hl.1 rfl (Nat.le_of_ble_eq_true rfl) dX7_ofEvent_9 ⟨Nat.le_of_ble_eq_true rfl, Nat.le_of_ble_eq_true rfl⟩ hout hlocks (fun En q => by rw [q] at hG; exact hG.symm) ⟨Nat.le_of_ble_eq_true rfl, Nat.le_of_ble_eq_true rfl⟩ (fun v9 hw9 H locs q9 I hS => ?_)
  obtain ⟨x9, e9, q1, q2⟩ := q9
  subst q1
  rw [q2] at I
  rw [e9] at hG
  have hG : (if tn a2 = 0 then (Sum.inr (fX7_costOf τ x2)) else (if tn a2 = 1 then (Sum.inr (fX7_borneOf τ x2)) else (if tn a2 = 2 then (Sum.inr ((nI (cK τ 16 x2)).toInt64)) else (Sum.inr ((cI τ 30 x2).toInt64))))) = G := hG
  obtain ⟨e_a2, l_a2⟩ := okc_checkRange (by omega) e9
  refine W.eq (g2 := F0 m 12 ls []) rfl ?_
  refine lv_iload_n hx hb dX7_ofEvent_12 rfl (lv_at hl 3 rfl) ?_
  refine xtop (y := .int (nI (tn a2))) (congrArg Value.int e_a2) ?_
  by_cases t13_0 : tn a2 = 0
  · rw [if_pos t13_0] at hG
    refine xtop (y := .int (nI 0)) (by rw [t13_0]) ?_
    refine lv_tableIn (off := 27) (tgt := 40) hx hb dX7_ofEvent_13 (by decide) (by decide) (by decide) (by decide) ?_
    refine lv_aload_n hx hb dX7_ofEvent_40 rfl (lv_at hl 1 rfl) ?_
    refine lv_aload_n hx hb dX7_ofEvent_41 rfl (lv_at hl 0 rfl) ?_
    refine xcvR (As := [.ref (ad 17 x2)]) (rest := []) (v := some (.long (fX7_costOf τ x2))) ⟨hx, hb, hml, hown, hts⟩ (mX7_costOf l lo D E h Pr τ ad fa hR hW x2 (show x2 < cN τ 4 by first | assumption | omega)) (cwV 1 hts gX7_ofEvent_X7_costOf rfl rfl rfl (by decide +kernel) ⟨Nat.le_of_ble_eq_true rfl, Nat.le_of_ble_eq_true rfl⟩) I hR.f0 rfl rfl hl.1 rfl (Nat.le_of_ble_eq_true rfl) dX7_ofEvent_42 ⟨Nat.le_of_ble_eq_true rfl, Nat.le_of_ble_eq_true rfl⟩ ?_
    refine W.eq (g2 := F0 m 45 ls [.long (fX7_costOf τ x2)]) rfl ?_
    exact xrlX hx hb hr hlocks dX7_ofEvent_45 I hS ⟨_, hG.symm, rfl, rfl⟩ (Nat.le_of_ble_eq_true rfl) (Nat.le_of_ble_eq_true rfl)
  rw [if_neg t13_0] at hG
  by_cases t13_1 : tn a2 = 1
  · rw [if_pos t13_1] at hG
    refine xtop (y := .int (nI 1)) (by rw [t13_1]) ?_
    refine lv_tableIn (off := 33) (tgt := 46) hx hb dX7_ofEvent_13 (by decide) (by decide) (by decide) (by decide) ?_
    refine lv_aload_n hx hb dX7_ofEvent_46 rfl (lv_at hl 1 rfl) ?_
    refine lv_aload_n hx hb dX7_ofEvent_47 rfl (lv_at hl 0 rfl) ?_
    refine xcvR (As := [.ref (ad 17 x2)]) (rest := []) (v := some (.long (fX7_borneOf τ x2))) ⟨hx, hb, hml, hown, hts⟩ (mX7_borneOf l lo D E h Pr τ ad fa hR hW x2 (show x2 < cN τ 4 by first | assumption | omega)) (cwV 1 hts gX7_ofEvent_X7_borneOf rfl rfl rfl (by decide +kernel) ⟨Nat.le_of_ble_eq_true rfl, Nat.le_of_ble_eq_true rfl⟩) I hR.f0 rfl rfl hl.1 rfl (Nat.le_of_ble_eq_true rfl) dX7_ofEvent_48 ⟨Nat.le_of_ble_eq_true rfl, Nat.le_of_ble_eq_true rfl⟩ ?_
    refine W.eq (g2 := F0 m 51 ls [.long (fX7_borneOf τ x2)]) rfl ?_
    exact xrlX hx hb hr hlocks dX7_ofEvent_51 I hS ⟨_, hG.symm, rfl, rfl⟩ (Nat.le_of_ble_eq_true rfl) (Nat.le_of_ble_eq_true rfl)
  rw [if_neg t13_1] at hG
  by_cases t13_2 : tn a2 = 2
  · rw [if_pos t13_2] at hG
    refine xtop (y := .int (nI 2)) (by rw [t13_2]) ?_
    refine lv_tableIn (off := 39) (tgt := 52) hx hb dX7_ofEvent_13 (by decide) (by decide) (by decide) (by decide) ?_
    refine lv_aload_n hx hb dX7_ofEvent_52 rfl (lv_at hl 0 rfl) ?_
    refine xget (C := RX2) (T := TX2) (N := 3) 1 hx hb hts hin2 hown I (hR.f17 (show x2 < cN τ 4 by first | assumption | omega)) rfl (by decide) (List.mem_of_getElem? (i := 1) rfl) rfl rfl dX7_ofEvent_53 ?_
    have b53_16 : cK τ 16 x2 < 2000 := hW.2.2.2.2.2.2.2.1 x2 (show x2 < cN τ 4 by first | assumption | omega)
    refine lv_i2l (v := (nI (cK τ 16 x2)).toInt64) hx hb dX7_ofEvent_56 rfl ?_
    exact xrlX hx hb hr hlocks dX7_ofEvent_57 I hS ⟨_, hG.symm, rfl, rfl⟩ (Nat.le_of_ble_eq_true rfl) (Nat.le_of_ble_eq_true rfl)
  rw [if_neg t13_2] at hG
  refine lv_tableOut (tgt := 58) hx hb dX7_ofEvent_13 (Or.inr (by rw [nI_toInt (by omega)]; omega)) (by decide) ?_
  refine lv_aload_n hx hb dX7_ofEvent_58 rfl (lv_at hl 0 rfl) ?_
  refine xget (C := RX2) (T := TX2) (N := 3) 2 hx hb hts hin2 hown I (hR.f17 (show x2 < cN τ 4 by first | assumption | omega)) rfl (by decide) (List.mem_of_getElem? (i := 2) rfl) rfl rfl dX7_ofEvent_59 ?_
  refine lv_i2l (v := (cI τ 30 x2).toInt64) hx hb dX7_ofEvent_62 rfl ?_
  exact xrlX hx hb hr hlocks dX7_ofEvent_63 I hS ⟨_, hG.symm, rfl, rfl⟩ (Nat.le_of_ble_eq_true rfl) (Nat.le_of_ble_eq_true rfl)

def fX7_cost (τ : CT) (a1 : Int32) : (String ⊕ Int64) := (xbindE (fX7_checkYear a1) (fun _ => (Sum.inr (fX7_costIn τ (nI (tn a1))))))
set_option maxHeartbeats 4000000 in
set_option maxRecDepth 100000 in
theorem mX7_cost (l : Launch) (lo : Nat) (D : va_G) (E : Nat → ClassId) (h : XW) (hlst : l.stackTraces = false) (Pr : Nat → Prop) (τ : CT) (ad : Nat → Nat → Nat) (fa : Nat → Nat → Option Nat) (hR : RC E Pr τ ad fa h) (hW : CW τ) (a1 : Int32) : vx_Met l yX7_cost wsX7_cost ({ frames := 8, cells := 1, slots := 6, locals := 141 } : Room) (xP lo D E h [.ref (ad 0 0), .int a1]) (xQ lo D (fun v h' => ∃ x, (fX7_cost τ a1) = .inr x ∧ v = some (.long x) ∧ h' = h)) (xXp lo D h (fun En => (fX7_cost τ a1) = .inl En)) 1 6 (xA lo) := by
  obtain ⟨G, hG⟩ : ∃ G, fX7_cost τ a1 = G := ⟨_, rfl⟩
  rw [hG]
  unfold fX7_cost at hG
  refine vx_ofW (cc := cX7_cost) (maxL := 2) (ret := (some .long)) (by decide) rfl ?_
  intro p e s m args below meth c s₁ B hml hout hv
  obtain ⟨rfl, I⟩ := hv
  have hx := B.exec
  have hb := B.bytes
  have hr := B.returns
  have hts := atoms_spec (ws := wsX7_cost) B.pre
  have hown : s.vm.findClass RX7 = some m.cls := findClass_of_methodNamed B.named
  have hlocks := B.notSynchronized
  have hl := lv_entry ([.ref (ad 0 0), .int a1] : List Value) (n := 2) (Nat.le_of_ble_eq_true rfl)
  rw [lg_entry_eq]
  generalize (lg_sl ([.ref (ad 0 0), .int a1] : List Value) ++ List.replicate (2 - (lg_sl ([.ref (ad 0 0), .int a1] : List Value)).length) Slot.unset).toArray = ls at hl ⊢
  have hl : lv_has ls 2 [(0, .ref (ad 0 0)), (1, .int a1)] := hl
  have hin7 : ∀ w ∈ u_ws RX7 TX7 14, w ∈ wsX7_cost := fun _ h => List.mem_cons_of_mem _ (List.mem_append_left _ (List.mem_append_left _ (List.mem_append_left _ (List.mem_append_left _ (List.mem_append_left _ (List.mem_append_left _ (List.mem_append_left _ (List.mem_append_left _ (List.mem_append_right _ (h))))))))))
  have hin4 : ∀ w ∈ u_ws RX4 TX4 2, w ∈ wsX7_cost := fun _ h => List.mem_cons_of_mem _ (List.mem_append_left _ (List.mem_append_right _ (h)))
  have hin3 : ∀ w ∈ u_ws RX3 TX3 5, w ∈ wsX7_cost := fun _ h => List.mem_cons_of_mem _ (List.mem_append_left _ (List.mem_append_left _ (List.mem_append_left _ (List.mem_append_right _ (h)))))
  have hin5 : ∀ w ∈ u_ws RX5 TX5 4, w ∈ wsX7_cost := fun _ h => List.mem_cons_of_mem _ (List.mem_append_left _ (List.mem_append_left _ (List.mem_append_left _ (List.mem_append_left _ (List.mem_append_right _ (h))))))
  have hin1 : ∀ w ∈ u_ws RX1 TX1 3, w ∈ wsX7_cost := fun _ h => List.mem_cons_of_mem _ (List.mem_append_left _ (List.mem_append_left _ (List.mem_append_right _ (h))))
  have hin0 : ∀ w ∈ u_ws RX0 TX0 8, w ∈ wsX7_cost := fun _ h => List.mem_cons_of_mem _ (List.mem_append_left _ (List.mem_append_left _ (List.mem_append_left _ (List.mem_append_left _ (List.mem_append_left _ (List.mem_append_left _ (List.mem_append_right _ (h))))))))
  have hin2 : ∀ w ∈ u_ws RX2 TX2 3, w ∈ wsX7_cost := fun _ h => List.mem_cons_of_mem _ (List.mem_append_left _ (List.mem_append_left _ (List.mem_append_left _ (List.mem_append_left _ (List.mem_append_left _ (List.mem_append_left _ (List.mem_append_left _ (List.mem_append_right _ (h)))))))))
  have hin6 : ∀ w ∈ u_ws RX6 TX6 7, w ∈ wsX7_cost := fun _ h => List.mem_cons_of_mem _ (List.mem_append_left _ (List.mem_append_left _ (List.mem_append_left _ (List.mem_append_left _ (List.mem_append_left _ (List.mem_append_right _ (h)))))))
  have hg177 : ∀ w ∈ (vx_atS RX7 177 "java/lang/IllegalArgumentException" xnames).filter goodWord, w ∈ wsX7_cost := fun _ h => List.mem_cons_of_mem _ (List.mem_append_right _ (h))
  have hW0 := hW
  obtain ⟨w0, -⟩ := id hW
  have hS : va_S (xA lo) s.heap s.heap [] := va_S.rf
  have hT0 : XT lo s s.heap := I.2.2.2.2
  have hF : cF Pr h h := cF.rf
  refine lv_iload_n hx hb dX7_cost_0 rfl (lv_at hl 1 rfl) ?_
  refine xcsX (As := [.int a1]) (rest := []) ⟨hx, hb, hml, hown, hts⟩ (mX7_checkYear l lo D E h hlst a1) (va_cwS 1 hts gX7_cost_X7_checkYear rfl rfl rfl (by decide +kernel) ⟨Nat.le_of_ble_eq_true rfl, Nat.le_of_ble_eq_true rfl⟩) I hS rfl hl.1 rfl (Nat.le_of_ble_eq_true rfl) dX7_cost_1 ⟨Nat.le_of_ble_eq_true rfl, Nat.le_of_ble_eq_true rfl⟩ hout hlocks (fun En q => by rw [q] at hG; exact hG.symm) ⟨Nat.le_of_ble_eq_true rfl, Nat.le_of_ble_eq_true rfl⟩ (fun v9 hw9 H locs q9 I hS => ?_)
  obtain ⟨x1, e1, q1, q2⟩ := q9
  subst q1
  rw [q2] at I
  rw [e1] at hG
  have hG : (Sum.inr (fX7_costIn τ (nI (tn a1)))) = G := hG
  obtain ⟨e_a1, l_a1⟩ := okc_checkYear e1
  refine W.eq (g2 := F0 m 4 ls []) rfl ?_
  refine lv_aload_n hx hb dX7_cost_4 rfl (lv_at hl 0 rfl) ?_
  refine lv_iload_n hx hb dX7_cost_5 rfl (lv_at hl 1 rfl) ?_
  refine xtop (y := .int (nI (tn a1))) (congrArg Value.int e_a1) ?_
  refine xcvR (As := [.int (nI (tn a1))]) (rest := []) (v := some (.long (fX7_costIn τ (nI (tn a1))))) ⟨hx, hb, hml, hown, hts⟩ (mX7_costIn l lo D E h Pr τ ad fa hR hW (nI (tn a1))) (cwV 1 hts gX7_cost_X7_costIn rfl rfl rfl (by decide +kernel) ⟨Nat.le_of_ble_eq_true rfl, Nat.le_of_ble_eq_true rfl⟩) I hR.f0 rfl rfl hl.1 rfl (Nat.le_of_ble_eq_true rfl) dX7_cost_6 ⟨Nat.le_of_ble_eq_true rfl, Nat.le_of_ble_eq_true rfl⟩ ?_
  refine W.eq (g2 := F0 m 9 ls [.long (fX7_costIn τ (nI (tn a1)))]) rfl ?_
  exact xrlX hx hb hr hlocks dX7_cost_9 I hS ⟨_, hG.symm, rfl, rfl⟩ (Nat.le_of_ble_eq_true rfl) (Nat.le_of_ble_eq_true rfl)

def fX7_due (τ : CT) (a1 : Int32) (a2 : Int32) : (String ⊕ Int64) := (xbindE (fX7_memberOf τ a1) (fun x2 => (xbindE (fX7_checkYear a2) (fun _ => (Sum.inr (fX7_dueOf τ x2 (tn a2)))))))
set_option maxHeartbeats 4000000 in
set_option maxRecDepth 100000 in
theorem mX7_due (l : Launch) (lo : Nat) (D : va_G) (E : Nat → ClassId) (h : XW) (hlst : l.stackTraces = false) (Pr : Nat → Prop) (τ : CT) (ad : Nat → Nat → Nat) (fa : Nat → Nat → Option Nat) (hR : RC E Pr τ ad fa h) (hW : CW τ) (a1 : Int32) (a2 : Int32) : vx_Met l yX7_due wsX7_due ({ frames := 8, cells := 2, slots := 12, locals := 132 } : Room) (xP lo D E h [.ref (ad 0 0), .int a1, .int a2]) (xQ lo D (fun v h' => ∃ x, (fX7_due τ a1 a2) = .inr x ∧ v = some (.long x) ∧ h' = h)) (xXp lo D h (fun En => (fX7_due τ a1 a2) = .inl En)) 2 12 (xA lo) := by
  obtain ⟨G, hG⟩ : ∃ G, fX7_due τ a1 a2 = G := ⟨_, rfl⟩
  rw [hG]
  unfold fX7_due at hG
  refine vx_ofW (cc := cX7_due) (maxL := 4) (ret := (some .long)) (by decide) rfl ?_
  intro p e s m args below meth c s₁ B hml hout hv
  obtain ⟨rfl, I⟩ := hv
  have hx := B.exec
  have hb := B.bytes
  have hr := B.returns
  have hts := atoms_spec (ws := wsX7_due) B.pre
  have hown : s.vm.findClass RX7 = some m.cls := findClass_of_methodNamed B.named
  have hlocks := B.notSynchronized
  have hl := lv_entry ([.ref (ad 0 0), .int a1, .int a2] : List Value) (n := 4) (Nat.le_of_ble_eq_true rfl)
  rw [lg_entry_eq]
  generalize (lg_sl ([.ref (ad 0 0), .int a1, .int a2] : List Value) ++ List.replicate (4 - (lg_sl ([.ref (ad 0 0), .int a1, .int a2] : List Value)).length) Slot.unset).toArray = ls at hl ⊢
  have hl : lv_has ls 4 [(0, .ref (ad 0 0)), (1, .int a1), (2, .int a2)] := hl
  have hin7 : ∀ w ∈ u_ws RX7 TX7 14, w ∈ wsX7_due := fun _ h => List.mem_cons_of_mem _ (List.mem_append_left _ (List.mem_append_left _ (List.mem_append_left _ (List.mem_append_left _ (List.mem_append_left _ (List.mem_append_left _ (List.mem_append_right _ (h))))))))
  have hin3 : ∀ w ∈ u_ws RX3 TX3 5, w ∈ wsX7_due := fun _ h => List.mem_cons_of_mem _ (List.mem_append_left _ (List.mem_append_left _ (List.mem_append_left _ (List.mem_append_left _ (List.mem_append_right _ (h))))))
  have hin5 : ∀ w ∈ u_ws RX5 TX5 4, w ∈ wsX7_due := fun _ h => List.mem_cons_of_mem _ (List.mem_append_left _ (List.mem_append_left _ (List.mem_append_right _ (h))))
  have hin1 : ∀ w ∈ u_ws RX1 TX1 3, w ∈ wsX7_due := fun _ h => List.mem_cons_of_mem _ (List.mem_append_left _ (List.mem_append_left _ (List.mem_append_left _ (List.mem_append_right _ (h)))))
  have hin6 : ∀ w ∈ u_ws RX6 TX6 7, w ∈ wsX7_due := fun _ h => List.mem_cons_of_mem _ (List.mem_append_left _ (List.mem_append_left _ (List.mem_append_left _ (List.mem_append_left _ (List.mem_append_left _ (List.mem_append_right _ (h)))))))
  have hg334 : ∀ w ∈ (vx_atS RX7 334 "java/lang/IndexOutOfBoundsException" xnames).filter goodWord, w ∈ wsX7_due := fun _ h => List.mem_cons_of_mem _ (List.mem_append_left _ (List.mem_append_right _ (h)))
  have hg177 : ∀ w ∈ (vx_atS RX7 177 "java/lang/IllegalArgumentException" xnames).filter goodWord, w ∈ wsX7_due := fun _ h => List.mem_cons_of_mem _ (List.mem_append_right _ (h))
  have hW0 := hW
  obtain ⟨w0, -⟩ := id hW
  have hS : va_S (xA lo) s.heap s.heap [] := va_S.rf
  have hT0 : XT lo s s.heap := I.2.2.2.2
  have hF : cF Pr h h := cF.rf
  refine lv_aload_n hx hb dX7_due_0 rfl (lv_at hl 0 rfl) ?_
  refine lv_iload_n hx hb dX7_due_1 rfl (lv_at hl 1 rfl) ?_
  refine xcvX (As := [.int a1]) (rest := []) ⟨hx, hb, hml, hown, hts⟩ (mX7_memberOf l lo D E h hlst Pr τ ad fa hR hW a1) (cwV 1 hts gX7_due_X7_memberOf rfl rfl rfl (by decide +kernel) ⟨Nat.le_of_ble_eq_true rfl, Nat.le_of_ble_eq_true rfl⟩) I hS hR.f0 rfl rfl hl.1 rfl (Nat.le_of_ble_eq_true rfl) dX7_due_2 ⟨Nat.le_of_ble_eq_true rfl, Nat.le_of_ble_eq_true rfl⟩ hout hlocks (fun En q => by rw [q] at hG; exact hG.symm) ⟨Nat.le_of_ble_eq_true rfl, Nat.le_of_ble_eq_true rfl⟩ (fun v9 hw9 H locs q9 I hS => ?_)
  obtain ⟨x2, e2, q1, q2⟩ := q9
  subst q1
  rw [q2] at I
  rw [e2] at hG
  have hG : (xbindE (fX7_checkYear a2) (fun _ => (Sum.inr (fX7_dueOf τ x2 (tn a2))))) = G := hG
  obtain ⟨l_x2, e_x2⟩ := okc_memberOf hW0 e2
  refine W.eq (g2 := F0 m 5 ls [.ref (ad 10 x2)]) rfl ?_
  refine lv_astore_n (lv' := [(3, .ref (ad 10 x2)), (0, .ref (ad 0 0)), (1, .int a1), (2, .int a2)]) hx hb dX7_due_5 rfl hl (by decide) rfl (fun ls hl => ?_)
  refine lv_iload_n hx hb dX7_due_6 rfl (lv_at hl 3 rfl) ?_
  refine xcsX (As := [.int a2]) (rest := []) ⟨hx, hb, hml, hown, hts⟩ (mX7_checkYear l lo D E h hlst a2) (va_cwS 1 hts gX7_due_X7_checkYear rfl rfl rfl (by decide +kernel) ⟨Nat.le_of_ble_eq_true rfl, Nat.le_of_ble_eq_true rfl⟩) I hS rfl hl.1 rfl (Nat.le_of_ble_eq_true rfl) dX7_due_7 ⟨Nat.le_of_ble_eq_true rfl, Nat.le_of_ble_eq_true rfl⟩ hout hlocks (fun En q => by rw [q] at hG; exact hG.symm) ⟨Nat.le_of_ble_eq_true rfl, Nat.le_of_ble_eq_true rfl⟩ (fun v9 hw9 H locs q9 I hS => ?_)
  obtain ⟨x7, e7, q1, q2⟩ := q9
  subst q1
  rw [q2] at I
  rw [e7] at hG
  have hG : (Sum.inr (fX7_dueOf τ x2 (tn a2))) = G := hG
  obtain ⟨e_a2, l_a2⟩ := okc_checkYear e7
  refine W.eq (g2 := F0 m 10 ls []) rfl ?_
  refine lv_aload_n hx hb dX7_due_10 rfl (lv_at hl 1 rfl) ?_
  refine lv_aload_n hx hb dX7_due_11 rfl (lv_at hl 0 rfl) ?_
  refine lv_iload_n hx hb dX7_due_12 rfl (lv_at hl 3 rfl) ?_
  refine xtop (y := .int (nI (tn a2))) (congrArg Value.int e_a2) ?_
  refine xcvR (As := [.ref (ad 10 x2), .int (nI (tn a2))]) (rest := []) (v := some (.long (fX7_dueOf τ x2 (tn a2)))) ⟨hx, hb, hml, hown, hts⟩ (mX7_dueOf l lo D E h Pr τ ad fa hR hW x2 (tn a2) (show x2 < cN τ 0 by first | assumption | omega) (by first | assumption | omega)) (cwV 2 hts gX7_due_X7_dueOf rfl rfl rfl (by decide +kernel) ⟨Nat.le_of_ble_eq_true rfl, Nat.le_of_ble_eq_true rfl⟩) I hR.f0 rfl rfl hl.1 rfl (Nat.le_of_ble_eq_true rfl) dX7_due_13 ⟨Nat.le_of_ble_eq_true rfl, Nat.le_of_ble_eq_true rfl⟩ ?_
  refine W.eq (g2 := F0 m 16 ls [.long (fX7_dueOf τ x2 (tn a2))]) rfl ?_
  exact xrlX hx hb hr hlocks dX7_due_16 I hS ⟨_, hG.symm, rfl, rfl⟩ (Nat.le_of_ble_eq_true rfl) (Nat.le_of_ble_eq_true rfl)

def fX7_owes (τ : CT) (a1 : Int32) : (String ⊕ Int64) := (xbindE (fX7_memberOf τ a1) (fun x3 => (Sum.inr (fX7_owedBy τ x3))))
set_option maxHeartbeats 4000000 in
set_option maxRecDepth 100000 in
theorem mX7_owes (l : Launch) (lo : Nat) (D : va_G) (E : Nat → ClassId) (h : XW) (hlst : l.stackTraces = false) (Pr : Nat → Prop) (τ : CT) (ad : Nat → Nat → Nat) (fa : Nat → Nat → Option Nat) (hR : RC E Pr τ ad fa h) (hW : CW τ) (a1 : Int32) : vx_Met l yX7_owes wsX7_owes ({ frames := 7, cells := 1, slots := 6, locals := 145 } : Room) (xP lo D E h [.ref (ad 0 0), .int a1]) (xQ lo D (fun v h' => ∃ x, (fX7_owes τ a1) = .inr x ∧ v = some (.long x) ∧ h' = h)) (xXp lo D h (fun En => (fX7_owes τ a1) = .inl En)) 1 6 (xA lo) := by
  obtain ⟨G, hG⟩ : ∃ G, fX7_owes τ a1 = G := ⟨_, rfl⟩
  rw [hG]
  unfold fX7_owes at hG
  refine vx_ofW (cc := cX7_owes) (maxL := 2) (ret := (some .long)) (by decide) rfl ?_
  intro p e s m args below meth c s₁ B hml hout hv
  obtain ⟨rfl, I⟩ := hv
  have hx := B.exec
  have hb := B.bytes
  have hr := B.returns
  have hts := atoms_spec (ws := wsX7_owes) B.pre
  have hown : s.vm.findClass RX7 = some m.cls := findClass_of_methodNamed B.named
  have hlocks := B.notSynchronized
  have hl := lv_entry ([.ref (ad 0 0), .int a1] : List Value) (n := 2) (Nat.le_of_ble_eq_true rfl)
  rw [lg_entry_eq]
  generalize (lg_sl ([.ref (ad 0 0), .int a1] : List Value) ++ List.replicate (2 - (lg_sl ([.ref (ad 0 0), .int a1] : List Value)).length) Slot.unset).toArray = ls at hl ⊢
  have hl : lv_has ls 2 [(0, .ref (ad 0 0)), (1, .int a1)] := hl
  have hin7 : ∀ w ∈ u_ws RX7 TX7 14, w ∈ wsX7_owes := fun _ h => List.mem_cons_of_mem _ (List.mem_append_left _ (List.mem_append_left _ (List.mem_append_left _ (List.mem_append_left _ (List.mem_append_left _ (List.mem_append_right _ (h)))))))
  have hin3 : ∀ w ∈ u_ws RX3 TX3 5, w ∈ wsX7_owes := fun _ h => List.mem_cons_of_mem _ (List.mem_append_left _ (List.mem_append_left _ (List.mem_append_left _ (List.mem_append_left _ (List.mem_append_right _ (h))))))
  have hin5 : ∀ w ∈ u_ws RX5 TX5 4, w ∈ wsX7_owes := fun _ h => List.mem_cons_of_mem _ (List.mem_append_left _ (List.mem_append_right _ (h)))
  have hin1 : ∀ w ∈ u_ws RX1 TX1 3, w ∈ wsX7_owes := fun _ h => List.mem_cons_of_mem _ (List.mem_append_left _ (List.mem_append_left _ (List.mem_append_right _ (h))))
  have hin6 : ∀ w ∈ u_ws RX6 TX6 7, w ∈ wsX7_owes := fun _ h => List.mem_cons_of_mem _ (List.mem_append_left _ (List.mem_append_left _ (List.mem_append_left _ (List.mem_append_right _ (h)))))
  have hg334 : ∀ w ∈ (vx_atS RX7 334 "java/lang/IndexOutOfBoundsException" xnames).filter goodWord, w ∈ wsX7_owes := fun _ h => List.mem_cons_of_mem _ (List.mem_append_right _ (h))
  have hW0 := hW
  obtain ⟨w0, -⟩ := id hW
  have hS : va_S (xA lo) s.heap s.heap [] := va_S.rf
  have hT0 : XT lo s s.heap := I.2.2.2.2
  have hF : cF Pr h h := cF.rf
  refine lv_aload_n hx hb dX7_owes_0 rfl (lv_at hl 0 rfl) ?_
  refine lv_aload_n hx hb dX7_owes_1 rfl (lv_at hl 0 rfl) ?_
  refine lv_iload_n hx hb dX7_owes_2 rfl (lv_at hl 1 rfl) ?_
  refine xcvX (As := [.int a1]) (rest := [.ref (ad 0 0)]) ⟨hx, hb, hml, hown, hts⟩ (mX7_memberOf l lo D E h hlst Pr τ ad fa hR hW a1) (cwV 1 hts gX7_owes_X7_memberOf rfl rfl rfl (by decide +kernel) ⟨Nat.le_of_ble_eq_true rfl, Nat.le_of_ble_eq_true rfl⟩) I hS hR.f0 rfl rfl hl.1 rfl (Nat.le_of_ble_eq_true rfl) dX7_owes_3 ⟨Nat.le_of_ble_eq_true rfl, Nat.le_of_ble_eq_true rfl⟩ hout hlocks (fun En q => by rw [q] at hG; exact hG.symm) ⟨Nat.le_of_ble_eq_true rfl, Nat.le_of_ble_eq_true rfl⟩ (fun v9 hw9 H locs q9 I hS => ?_)
  obtain ⟨x3, e3, q1, q2⟩ := q9
  subst q1
  rw [q2] at I
  rw [e3] at hG
  have hG : (Sum.inr (fX7_owedBy τ x3)) = G := hG
  obtain ⟨l_x3, e_x3⟩ := okc_memberOf hW0 e3
  refine W.eq (g2 := F0 m 6 ls [.ref (ad 10 x3), .ref (ad 0 0)]) rfl ?_
  refine xcvR (As := [.ref (ad 10 x3)]) (rest := []) (v := some (.long (fX7_owedBy τ x3))) ⟨hx, hb, hml, hown, hts⟩ (mX7_owedBy l lo D E h Pr τ ad fa hR hW x3 (show x3 < cN τ 0 by first | assumption | omega)) (cwV 1 hts gX7_owes_X7_owedBy rfl rfl rfl (by decide +kernel) ⟨Nat.le_of_ble_eq_true rfl, Nat.le_of_ble_eq_true rfl⟩) I hR.f0 rfl rfl hl.1 rfl (Nat.le_of_ble_eq_true rfl) dX7_owes_6 ⟨Nat.le_of_ble_eq_true rfl, Nat.le_of_ble_eq_true rfl⟩ ?_
  refine W.eq (g2 := F0 m 9 ls [.long (fX7_owedBy τ x3)]) rfl ?_
  exact xrlX hx hb hr hlocks dX7_owes_9 I hS ⟨_, hG.symm, rfl, rfl⟩ (Nat.le_of_ble_eq_true rfl) (Nat.le_of_ble_eq_true rfl)

def fX7_isClosed (τ : CT) (a1 : Int32) : (String ⊕ Int32) := (xbindE (fX7_checkYear a1) (fun _ => (Sum.inr (cI τ 33 (tn a1)))))
set_option maxHeartbeats 4000000 in
set_option maxRecDepth 100000 in
theorem mX7_isClosed (l : Launch) (lo : Nat) (D : va_G) (E : Nat → ClassId) (h : XW) (hlst : l.stackTraces = false) (Pr : Nat → Prop) (τ : CT) (ad : Nat → Nat → Nat) (fa : Nat → Nat → Option Nat) (hR : RC E Pr τ ad fa h) (hW : CW τ) (a1 : Int32) : vx_Met l yX7_isClosed wsX7_isClosed ({ frames := 8, cells := 1, slots := 6, locals := 132 } : Room) (xP lo D E h [.ref (ad 0 0), .int a1]) (xQ lo D (fun v h' => ∃ x, (fX7_isClosed τ a1) = .inr x ∧ v = some (.int x) ∧ h' = h)) (xXp lo D h (fun En => (fX7_isClosed τ a1) = .inl En)) 1 6 (xA lo) := by
  obtain ⟨G, hG⟩ : ∃ G, fX7_isClosed τ a1 = G := ⟨_, rfl⟩
  rw [hG]
  unfold fX7_isClosed at hG
  refine vx_ofW (cc := cX7_isClosed) (maxL := 2) (ret := (some .boolean)) (by decide) rfl ?_
  intro p e s m args below meth c s₁ B hml hout hv
  obtain ⟨rfl, I⟩ := hv
  have hx := B.exec
  have hb := B.bytes
  have hr := B.returns
  have hts := atoms_spec (ws := wsX7_isClosed) B.pre
  have hown : s.vm.findClass RX7 = some m.cls := findClass_of_methodNamed B.named
  have hlocks := B.notSynchronized
  have hl := lv_entry ([.ref (ad 0 0), .int a1] : List Value) (n := 2) (Nat.le_of_ble_eq_true rfl)
  rw [lg_entry_eq]
  generalize (lg_sl ([.ref (ad 0 0), .int a1] : List Value) ++ List.replicate (2 - (lg_sl ([.ref (ad 0 0), .int a1] : List Value)).length) Slot.unset).toArray = ls at hl ⊢
  have hl : lv_has ls 2 [(0, .ref (ad 0 0)), (1, .int a1)] := hl
  have hin7 : ∀ w ∈ u_ws RX7 TX7 14, w ∈ wsX7_isClosed := fun _ h => List.mem_cons_of_mem _ (List.mem_append_left _ (List.mem_append_left _ (List.mem_append_right _ (h))))
  have hin6 : ∀ w ∈ u_ws RX6 TX6 7, w ∈ wsX7_isClosed := fun _ h => List.mem_cons_of_mem _ (List.mem_append_left _ (List.mem_append_right _ (h)))
  have hg177 : ∀ w ∈ (vx_atS RX7 177 "java/lang/IllegalArgumentException" xnames).filter goodWord, w ∈ wsX7_isClosed := fun _ h => List.mem_cons_of_mem _ (List.mem_append_right _ (h))
  have hW0 := hW
  obtain ⟨w0, -⟩ := id hW
  have hS : va_S (xA lo) s.heap s.heap [] := va_S.rf
  have hT0 : XT lo s s.heap := I.2.2.2.2
  have hF : cF Pr h h := cF.rf
  refine lv_iload_n hx hb dX7_isClosed_0 rfl (lv_at hl 1 rfl) ?_
  refine xcsX (As := [.int a1]) (rest := []) ⟨hx, hb, hml, hown, hts⟩ (mX7_checkYear l lo D E h hlst a1) (va_cwS 1 hts gX7_isClosed_X7_checkYear rfl rfl rfl (by decide +kernel) ⟨Nat.le_of_ble_eq_true rfl, Nat.le_of_ble_eq_true rfl⟩) I hS rfl hl.1 rfl (Nat.le_of_ble_eq_true rfl) dX7_isClosed_1 ⟨Nat.le_of_ble_eq_true rfl, Nat.le_of_ble_eq_true rfl⟩ hout hlocks (fun En q => by rw [q] at hG; exact hG.symm) ⟨Nat.le_of_ble_eq_true rfl, Nat.le_of_ble_eq_true rfl⟩ (fun v9 hw9 H locs q9 I hS => ?_)
  obtain ⟨x1, e1, q1, q2⟩ := q9
  subst q1
  rw [q2] at I
  rw [e1] at hG
  have hG : (Sum.inr (cI τ 33 (tn a1))) = G := hG
  obtain ⟨e_a1, l_a1⟩ := okc_checkYear e1
  refine W.eq (g2 := F0 m 4 ls []) rfl ?_
  refine lv_aload_n hx hb dX7_isClosed_4 rfl (lv_at hl 0 rfl) ?_
  refine xget (C := RX7) (T := TX7) (N := 14) 5 hx hb hts hin7 hown I hR.f0 rfl (by decide) (List.mem_of_getElem? (i := 1) rfl) rfl rfl dX7_isClosed_5 ?_
  refine lv_iload_n hx hb dX7_isClosed_8 rfl (lv_at hl 1 rfl) ?_
  refine xtop (y := .int (nI (tn a1))) (congrArg Value.int e_a1) ?_
  refine xaald (i := (tn a1)) (n := 20) 8 hx hb I rfl hR.f6 (by omega) (by decide) (hR.2.2.2.2.2.2.2.2.2 (tn a1) (show tn a1 < 20 by first | assumption | omega)) dX7_isClosed_9 ?_
  refine W.eq (g2 := F0 m 10 ls [.ref (ad 18 (tn a1))]) rfl ?_
  refine xget (C := RX6) (T := TX6) (N := 7) 2 hx hb hts hin6 hown I (hR.f18 (show tn a1 < 20 by first | assumption | omega)) rfl (by decide) (List.mem_of_getElem? (i := 2) rfl) rfl rfl dX7_isClosed_10 ?_
  exact xrzX hx hb hr hlocks dX7_isClosed_13 (hW0.2.2.2.2.2.2.2.2.2.2.2.2.1 (tn a1)) I hS ⟨_, hG.symm, rfl, rfl⟩ (Nat.le_of_ble_eq_true rfl) (Nat.le_of_ble_eq_true rfl)
