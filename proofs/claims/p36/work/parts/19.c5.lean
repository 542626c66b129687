def fX7_rate (τ : CT) (a1 : Int32) (a2 : Int32) (a3 : Int32) : (String ⊕ (Int32 × CT)) := (xbindE (fX7_memberOf τ a1) (fun x2 => (xbindE (fX7_checkYear a2) (fun _ => (xbindE (fX7_checkRange a3 (nI 10) (nI 500)) (fun _ => (xbindE (fX7_checkOpen τ (tn a2)) (fun _ => (if (cM τ 1 x2 (tn a2)) = 0 then (Sum.inr ((cM τ 0 x2 (tn a2)), (cSM τ 0 x2 (tn a2) (nI (tn a3))))) else (Sum.inl "java/lang/IllegalStateException"))))))))))
set_option maxHeartbeats 4000000 in
set_option maxRecDepth 100000 in
theorem mX7_rate (l : Launch) (lo : Nat) (D : va_G) (E : Nat → ClassId) (h : XW) (hlst : l.stackTraces = false) (Pr : Nat → Prop) (τ : CT) (ad : Nat → Nat → Nat) (fa : Nat → Nat → Option Nat) (hR : RC E Pr τ ad fa h) (hW : CW τ) (a1 : Int32) (a2 : Int32) (a3 : Int32) : vx_Met l yX7_rate wsX7_rate ({ frames := 8, cells := 5, slots := 30, locals := 132 } : Room) (xP lo D E h [.ref (ad 0 0), .int a1, .int a2, .int a3]) (xQ lo D (fun v h' => ∃ x, (fX7_rate τ a1 a2 a3) = .inr x ∧ v = some (.int x.1) ∧ RC E Pr (x.2) ad fa h' ∧ cF Pr h h' ∧ CW x.2)) (xXp lo D h (fun En => (fX7_rate τ a1 a2 a3) = .inl En)) 5 30 (xA lo) := by
  obtain ⟨G, hG⟩ : ∃ G, fX7_rate τ a1 a2 a3 = G := ⟨_, rfl⟩
  rw [hG]
  unfold fX7_rate at hG
  refine vx_ofW (cc := cX7_rate) (maxL := 6) (ret := (some .int)) (by decide) rfl ?_
  intro p e s m args below meth c s₁ B hml hout hv
  obtain ⟨rfl, I⟩ := hv
  have hx := B.exec
  have hb := B.bytes
  have hr := B.returns
  have hts := atoms_spec (ws := wsX7_rate) B.pre
  have hown : s.vm.findClass RX7 = some m.cls := findClass_of_methodNamed B.named
  have hlocks := B.notSynchronized
  have hl := lv_entry ([.ref (ad 0 0), .int a1, .int a2, .int a3] : List Value) (n := 6) (Nat.le_of_ble_eq_true rfl)
  rw [lg_entry_eq]
  generalize (lg_sl ([.ref (ad 0 0), .int a1, .int a2, .int a3] : List Value) ++ List.replicate (6 - (lg_sl ([.ref (ad 0 0), .int a1, .int a2, .int a3] : List Value)).length) Slot.unset).toArray = ls at hl ⊢
  have hl : lv_has ls 6 [(0, .ref (ad 0 0)), (1, .int a1), (2, .int a2), (3, .int a3)] := hl
  have hin7 : ∀ w ∈ u_ws RX7 TX7 14, w ∈ wsX7_rate := fun _ h => List.mem_cons_of_mem _ (List.mem_append_left _ (List.mem_append_left _ (List.mem_append_left _ (List.mem_append_left _ (List.mem_append_right _ (h))))))
  have hin3 : ∀ w ∈ u_ws RX3 TX3 5, w ∈ wsX7_rate := fun _ h => List.mem_cons_of_mem _ (List.mem_append_left _ (List.mem_append_left _ (List.mem_append_left _ (List.mem_append_left _ (List.mem_append_left _ (List.mem_append_right _ (h)))))))
  have hin6 : ∀ w ∈ u_ws RX6 TX6 7, w ∈ wsX7_rate := fun _ h => List.mem_cons_of_mem _ (List.mem_append_left _ (List.mem_append_left _ (List.mem_append_left _ (List.mem_append_right _ (h)))))
  have hg61 : ∀ w ∈ (vx_atS RX7 61 "java/lang/IllegalStateException" xnames).filter goodWord, w ∈ wsX7_rate := fun _ h => List.mem_cons_of_mem _ (List.mem_append_left _ (List.mem_append_left _ (List.mem_append_right _ (h))))
  have hg334 : ∀ w ∈ (vx_atS RX7 334 "java/lang/IndexOutOfBoundsException" xnames).filter goodWord, w ∈ wsX7_rate := fun _ h => List.mem_cons_of_mem _ (List.mem_append_left _ (List.mem_append_right _ (h)))
  have hg177 : ∀ w ∈ (vx_atS RX7 177 "java/lang/IllegalArgumentException" xnames).filter goodWord, w ∈ wsX7_rate := fun _ h => List.mem_cons_of_mem _ (List.mem_append_right _ (h))
  have hW0 := hW
  obtain ⟨w0, -⟩ := id hW
  have hS : va_S (xA lo) s.heap s.heap [] := va_S.rf
  have hT0 : XT lo s s.heap := I.2.2.2.2
  have hF : cF Pr h h := cF.rf
  refine lv_aload_n hx hb dX7_rate_0 rfl (lv_at hl 0 rfl) ?_
  refine lv_iload_n hx hb dX7_rate_1 rfl (lv_at hl 1 rfl) ?_
  refine xcvX (As := [.int a1]) (rest := []) ⟨hx, hb, hml, hown, hts⟩ (mX7_memberOf l lo D E h hlst Pr τ ad fa hR hW a1) (cwV 1 hts gX7_rate_X7_memberOf rfl rfl rfl (by decide +kernel) ⟨Nat.le_of_ble_eq_true rfl, Nat.le_of_ble_eq_true rfl⟩) I hS hR.f0 rfl rfl hl.1 rfl (Nat.le_of_ble_eq_true rfl) dX7_rate_2 ⟨Nat.le_of_ble_eq_true rfl, Nat.le_of_ble_eq_true rfl⟩ hout hlocks (fun En q => by rw [q] at hG; exact hG.symm) ⟨Nat.le_of_ble_eq_true rfl, Nat.le_of_ble_eq_true rfl⟩ (fun v9 hw9 H locs q9 I hS => ?_)
  obtain ⟨x2, e2, q1, q2⟩ := q9
  subst q1
  rw [q2] at I
  rw [e2] at hG
  have hG : (xbindE (fX7_checkYear a2) (fun _ => (xbindE (fX7_checkRange a3 (nI 10) (nI 500)) (fun _ => (xbindE (fX7_checkOpen τ (tn a2)) (fun _ => (if (cM τ 1 x2 (tn a2)) = 0 then (Sum.inr ((cM τ 0 x2 (tn a2)), (cSM τ 0 x2 (tn a2) (nI (tn a3))))) else (Sum.inl "java/lang/IllegalStateException")))))))) = G := hG
  obtain ⟨l_x2, e_x2⟩ := okc_memberOf hW0 e2
  refine W.eq (g2 := F0 m 5 ls [.ref (ad 10 x2)]) rfl ?_
  refine lv_astore (lv' := [(4, .ref (ad 10 x2)), (0, .ref (ad 0 0)), (1, .int a1), (2, .int a2), (3, .int a3)]) hx hb dX7_rate_5 hl (by decide) rfl (fun ls hl => ?_)
  refine lv_iload_n hx hb dX7_rate_7 rfl (lv_at hl 3 rfl) ?_
  refine xcsX (As := [.int a2]) (rest := []) ⟨hx, hb, hml, hown, hts⟩ (mX7_checkYear l lo D E h hlst a2) (va_cwS 1 hts gX7_rate_X7_checkYear rfl rfl rfl (by decide +kernel) ⟨Nat.le_of_ble_eq_true rfl, Nat.le_of_ble_eq_true rfl⟩) I hS rfl hl.1 rfl (Nat.le_of_ble_eq_true rfl) dX7_rate_8 ⟨Nat.le_of_ble_eq_true rfl, Nat.le_of_ble_eq_true rfl⟩ hout hlocks (fun En q => by rw [q] at hG; exact hG.symm) ⟨Nat.le_of_ble_eq_true rfl, Nat.le_of_ble_eq_true rfl⟩ (fun v9 hw9 H locs q9 I hS => ?_)
  obtain ⟨x8, e8, q1, q2⟩ := q9
  subst q1
  rw [q2] at I
  rw [e8] at hG
  have hG : (xbindE (fX7_checkRange a3 (nI 10) (nI 500)) (fun _ => (xbindE (fX7_checkOpen τ (tn a2)) (fun _ => (if (cM τ 1 x2 (tn a2)) = 0 then (Sum.inr ((cM τ 0 x2 (tn a2)), (cSM τ 0 x2 (tn a2) (nI (tn a3))))) else (Sum.inl "java/lang/IllegalStateException")))))) = G := hG
  obtain ⟨e_a2, l_a2⟩ := okc_checkYear e8
  refine W.eq (g2 := F0 m 11 ls []) rfl ?_
  refine lv_iload_n hx hb dX7_rate_11 rfl (lv_at hl 4 rfl) ?_
  refine lv_bipush (v := (nI 10)) hx hb dX7_rate_12 (by decide) ?_
  refine lv_sipush (v := (nI 500)) hx hb dX7_rate_14 (by decide) ?_
  refine xcsX (As := [.int a3, .int (nI 10), .int (nI 500)]) (rest := []) ⟨hx, hb, hml, hown, hts⟩ (mX7_checkRange l lo D E h hlst a3 (nI 10) (nI 500)) (va_cwS 3 hts gX7_rate_X7_checkRange rfl rfl rfl (by decide +kernel) ⟨Nat.le_of_ble_eq_true rfl, Nat.le_of_ble_eq_true rfl⟩) I hS rfl hl.1 rfl (Nat.le_of_ble_eq_true rfl) dX7_rate_17 ⟨Nat.le_of_ble_eq_true rfl, Nat.le_of_ble_eq_true rfl⟩ hout hlocks (fun En q => by rw [q] at hG; exact hG.symm) ⟨Nat.le_of_ble_eq_true rfl, Nat.le_of_ble_eq_true rfl⟩ (fun v9 hw9 H locs q9 I hS => ?_)
  obtain ⟨x17, e17, q1, q2⟩ := q9
  subst q1
  rw [q2] at I
  rw [e17] at hG
  have hG : (xbindE (fX7_checkOpen τ (tn a2)) (fun _ => (if (cM τ 1 x2 (tn a2)) = 0 then (Sum.inr ((cM τ 0 x2 (tn a2)), (cSM τ 0 x2 (tn a2) (nI (tn a3))))) else (Sum.inl "java/lang/IllegalStateException")))) = G := hG
  obtain ⟨e_a3, l_a3⟩ := okc_checkRange (by omega) e17
  refine W.eq (g2 := F0 m 20 ls []) rfl ?_
  refine lv_aload_n hx hb dX7_rate_20 rfl (lv_at hl 1 rfl) ?_
  refine lv_iload_n hx hb dX7_rate_21 rfl (lv_at hl 3 rfl) ?_
  refine xtop (y := .int (nI (tn a2))) (congrArg Value.int e_a2) ?_
  refine xcvX (As := [.int (nI (tn a2))]) (rest := []) ⟨hx, hb, hml, hown, hts⟩ (mX7_checkOpen l lo D E h hlst Pr τ ad fa hR hW (tn a2) (by first | assumption | omega)) (cwV 1 hts gX7_rate_X7_checkOpen rfl rfl rfl (by decide +kernel) ⟨Nat.le_of_ble_eq_true rfl, Nat.le_of_ble_eq_true rfl⟩) I hS hR.f0 rfl rfl hl.1 rfl (Nat.le_of_ble_eq_true rfl) dX7_rate_22 ⟨Nat.le_of_ble_eq_true rfl, Nat.le_of_ble_eq_true rfl⟩ hout hlocks (fun En q => by rw [q] at hG; exact hG.symm) ⟨Nat.le_of_ble_eq_true rfl, Nat.le_of_ble_eq_true rfl⟩ (fun v9 hw9 H locs q9 I hS => ?_)
  obtain ⟨x22, e22, q1, q2⟩ := q9
  subst q1
  rw [q2] at I
  rw [e22] at hG
  have hG : (if (cM τ 1 x2 (tn a2)) = 0 then (Sum.inr ((cM τ 0 x2 (tn a2)), (cSM τ 0 x2 (tn a2) (nI (tn a3))))) else (Sum.inl "java/lang/IllegalStateException")) = G := hG
  refine W.eq (g2 := F0 m 25 ls []) rfl ?_
  refine lv_aload hx hb dX7_rate_25 (lv_at hl 0 rfl) ?_
  refine xget (C := RX3) (T := TX3) (N := 5) 1 hx hb hts hin3 hown I (hR.f10 (show x2 < cN τ 0 by first | assumption | omega)) rfl (by decide) (List.mem_of_getElem? (i := 3) rfl) rfl rfl dX7_rate_27 ?_
  refine lv_iload_n hx hb dX7_rate_30 rfl (lv_at hl 3 rfl) ?_
  refine xtop (y := .int (nI (tn a2))) (congrArg Value.int e_a2) ?_
  refine xzald (i := (tn a2)) (n := 20) hx hb I (hR.f12 (show x2 < cN τ 0 by first | assumption | omega)) (by omega) (by decide) dX7_rate_31 ?_
  refine lv_if_eq (tgt := 45) hx hb dX7_rate_32 (by decide) (fun c_32 => ?_) (fun c_32 => ?_)
  · skip
    rw [if_pos c_32] at hG
    refine lv_aload hx hb dX7_rate_45 (lv_at hl 0 rfl) ?_
    refine xget (C := RX3) (T := TX3) (N := 5) 0 hx hb hts hin3 hown I (hR.f10 (show x2 < cN τ 0 by first | assumption | omega)) rfl (by decide) (List.mem_of_getElem? (i := 4) rfl) rfl rfl dX7_rate_47 ?_
    refine lv_iload_n hx hb dX7_rate_50 rfl (lv_at hl 3 rfl) ?_
    refine xtop (y := .int (nI (tn a2))) (congrArg Value.int e_a2) ?_
    refine xiald (i := (tn a2)) (n := 20) hx hb I (hR.f11 (show x2 < cN τ 0 by first | assumption | omega)) (by omega) (by decide) dX7_rate_51 ?_
    refine lv_istore (lv' := [(5, .int (cM τ 0 x2 (tn a2))), (4, .ref (ad 10 x2)), (0, .ref (ad 0 0)), (1, .int a1), (2, .int a2), (3, .int a3)]) hx hb dX7_rate_52 hl (by decide) rfl (fun ls hl => ?_)
    refine lv_aload hx hb dX7_rate_54 (lv_at hl 1 rfl) ?_
    refine xget (C := RX3) (T := TX3) (N := 5) 0 hx hb hts hin3 hown I (hR.f10 (show x2 < cN τ 0 by first | assumption | omega)) rfl (by decide) (List.mem_of_getElem? (i := 4) rfl) rfl rfl dX7_rate_56 ?_
    refine lv_iload_n hx hb dX7_rate_59 rfl (lv_at hl 4 rfl) ?_
    refine xtop (y := .int (nI (tn a2))) (congrArg Value.int e_a2) ?_
    refine lv_iload_n hx hb dX7_rate_60 rfl (lv_at hl 5 rfl) ?_
    refine xtop (y := .int (nI (tn a3))) (congrArg Value.int e_a3) ?_
    refine xiC (i := (tn a2)) (n := 20) hx hb I hS hF (hR.f11 (show x2 < cN τ 0 by first | assumption | omega)) (by omega) (by decide) (hR.a11 (show x2 < cN τ 0 by first | assumption | omega) (tn a2) (nI (tn a3))) (hR.2.2.1 11 x2 (show x2 < cN τ 0 by first | assumption | omega)) dX7_rate_61 (fun H locs hw I hR hF hS => ?_)
    have hR : RC E Pr (cSM τ 0 x2 (tn a2) (nI (tn a3))) ad fa hw := hR
    have hW : CW (cSM τ 0 x2 (tn a2) (nI (tn a3))) := hW.sM0 x2 (tn a2) (nI (tn a3))
    refine lv_iload hx hb dX7_rate_62 (lv_at hl 0 rfl) ?_
    exact xriX hx hb hr hlocks dX7_rate_64 I hS ⟨_, hG.symm, rfl, hR, hF, hW⟩ (Nat.le_of_ble_eq_true rfl) (Nat.le_of_ble_eq_true rfl)
  · skip
    rw [if_neg c_32] at hG
    exact xthS (ik := 57) (is := 133) (ic := 61) (X := "java/lang/IllegalStateException") (text := "the member was released in the year") hx hb hlst hown hts (by decide) (List.mem_of_getElem? (i := 1) rfl) (List.mem_of_getElem? (i := 2) rfl) hg61 (by decide) hT0 I hS (hl.1.trans hml.symm) dX7_rate_35 dX7_rate_38 dX7_rate_39 dX7_rate_41 dX7_rate_44 hout (Nat.le_of_ble_eq_true rfl) (Nat.le_of_ble_eq_true rfl) (Nat.le_of_ble_eq_true rfl) (Nat.le_of_ble_eq_true rfl) hlocks hG.symm (Nat.le_of_ble_eq_true rfl) (Nat.le_of_ble_eq_true rfl)

def fX7_pass (τ : CT) (a1 : Int32) : (String ⊕ (Int32 × CT)) := (xbindE (fX7_checkRange a1 (nI 1) (nI 200)) (fun _ => (if (nI (cN τ 5 + (tn a1))) < (nI 2000) then (Sum.inr ((nI (cN τ 5 + (tn a1))), (cSK τ 5 0 (cN τ 5 + (tn a1))))) else (Sum.inl "java/lang/IllegalStateException"))))
set_option maxHeartbeats 4000000 in
set_option maxRecDepth 100000 in
theorem mX7_pass (l : Launch) (lo : Nat) (D : va_G) (E : Nat → ClassId) (h : XW) (hlst : l.stackTraces = false) (Pr : Nat → Prop) (τ : CT) (ad : Nat → Nat → Nat) (fa : Nat → Nat → Option Nat) (hR : RC E Pr τ ad fa h) (hW : CW τ) (a1 : Int32) : vx_Met l yX7_pass wsX7_pass ({ frames := 7, cells := 2, slots := 12, locals := 112 } : Room) (xP lo D E h [.ref (ad 0 0), .int a1]) (xQ lo D (fun v h' => ∃ x, (fX7_pass τ a1) = .inr x ∧ v = some (.int x.1) ∧ RC E Pr (x.2) ad fa h' ∧ cF Pr h h' ∧ CW x.2)) (xXp lo D h (fun En => (fX7_pass τ a1) = .inl En)) 2 12 (xA lo) := by
  obtain ⟨G, hG⟩ : ∃ G, fX7_pass τ a1 = G := ⟨_, rfl⟩
  rw [hG]
  unfold fX7_pass at hG
  refine vx_ofW (cc := cX7_pass) (maxL := 2) (ret := (some .int)) (by decide) rfl ?_
  intro p e s m args below meth c s₁ B hml hout hv
  obtain ⟨rfl, I⟩ := hv
  have hx := B.exec
  have hb := B.bytes
  have hr := B.returns
  have hts := atoms_spec (ws := wsX7_pass) B.pre
  have hown : s.vm.findClass RX7 = some m.cls := findClass_of_methodNamed B.named
  have hlocks := B.notSynchronized
  have hl := lv_entry ([.ref (ad 0 0), .int a1] : List Value) (n := 2) (Nat.le_of_ble_eq_true rfl)
  rw [lg_entry_eq]
  generalize (lg_sl ([.ref (ad 0 0), .int a1] : List Value) ++ List.replicate (2 - (lg_sl ([.ref (ad 0 0), .int a1] : List Value)).length) Slot.unset).toArray = ls at hl ⊢
  have hl : lv_has ls 2 [(0, .ref (ad 0 0)), (1, .int a1)] := hl
  have hin7 : ∀ w ∈ u_ws RX7 TX7 14, w ∈ wsX7_pass := fun _ h => List.mem_cons_of_mem _ (List.mem_append_left _ (List.mem_append_left _ (List.mem_append_right _ (h))))
  have hg61 : ∀ w ∈ (vx_atS RX7 61 "java/lang/IllegalStateException" xnames).filter goodWord, w ∈ wsX7_pass := fun _ h => List.mem_cons_of_mem _ (List.mem_append_left _ (List.mem_append_right _ (h)))
  have hg177 : ∀ w ∈ (vx_atS RX7 177 "java/lang/IllegalArgumentException" xnames).filter goodWord, w ∈ wsX7_pass := fun _ h => List.mem_cons_of_mem _ (List.mem_append_right _ (h))
  have hW0 := hW
  obtain ⟨w0, -⟩ := id hW
  have hS : va_S (xA lo) s.heap s.heap [] := va_S.rf
  have hT0 : XT lo s s.heap := I.2.2.2.2
  have hF : cF Pr h h := cF.rf
  refine lv_iload_n hx hb dX7_pass_0 rfl (lv_at hl 1 rfl) ?_
  refine lv_iconst (v := (nI 1)) hx hb dX7_pass_1 (by decide) ?_
  refine lv_sipush (v := (nI 200)) hx hb dX7_pass_2 (by decide) ?_
  refine xcsX (As := [.int a1, .int (nI 1), .int (nI 200)]) (rest := []) ⟨hx, hb, hml, hown, hts⟩ (mX7_checkRange l lo D E h hlst a1 (nI 1) (nI 200)) (va_cwS 3 hts gX7_pass_X7_checkRange rfl rfl rfl (by decide +kernel) ⟨Nat.le_of_ble_eq_true rfl, Nat.le_of_ble_eq_true rfl⟩) I hS rfl hl.1 rfl (Nat.le_of_ble_eq_true rfl) dX7_pass_5 ⟨Nat.le_of_ble_eq_true rfl, Nat.le_of_ble_eq_true rfl⟩ hout hlocks (fun En q => by rw [q] at hG; exact hG.symm) ⟨Nat.le_of_ble_eq_true rfl, Nat.le_of_ble_eq_true rfl⟩ (fun v9 hw9 H locs q9 I hS => ?_)
  obtain ⟨x5, e5, q1, q2⟩ := q9
  subst q1
  rw [q2] at I
  rw [e5] at hG
  have hG : (if (nI (cN τ 5 + (tn a1))) < (nI 2000) then (Sum.inr ((nI (cN τ 5 + (tn a1))), (cSK τ 5 0 (cN τ 5 + (tn a1))))) else (Sum.inl "java/lang/IllegalStateException")) = G := hG
  obtain ⟨e_a1, l_a1⟩ := okc_checkRange (by omega) e5
  refine W.eq (g2 := F0 m 8 ls []) rfl ?_
  refine lv_aload_n hx hb dX7_pass_8 rfl (lv_at hl 0 rfl) ?_
  refine xget (C := RX7) (T := TX7) (N := 14) 12 hx hb hts hin7 hown I hR.f0 rfl (by decide) (List.mem_of_getElem? (i := 3) rfl) rfl rfl dX7_pass_9 ?_
  refine lv_iload_n hx hb dX7_pass_12 rfl (lv_at hl 1 rfl) ?_
  refine xtop (y := .int (nI (tn a1))) (congrArg Value.int e_a1) ?_
  refine lv_iadd hx hb dX7_pass_13 ?_
  refine xtop (y := .int (nI (cN τ 5 + (tn a1)))) (congrArg Value.int (nI_add _ _)) ?_
  refine lv_sipush (v := (nI 2000)) hx hb dX7_pass_14 (by decide) ?_
  refine lv_icmp_lt (tgt := 30) hx hb dX7_pass_17 (by decide) (fun c_17 => ?_) (fun c_17 => ?_)
  · skip
    rw [if_pos c_17] at hG
    have d_17 : (cN τ 5 + (tn a1)) < 2000 := (nI_ltI (a := (cN τ 5 + (tn a1))) (b := 2000) (by omega) (by omega)).mp c_17
    refine lv_aload_n hx hb dX7_pass_30 rfl (lv_at hl 0 rfl) ?_
    refine lv_dup hx hb dX7_pass_31 rfl ?_
    refine xget (C := RX7) (T := TX7) (N := 14) 12 hx hb hts hin7 hown I hR.f0 rfl (by decide) (List.mem_of_getElem? (i := 3) rfl) rfl rfl dX7_pass_32 ?_
    refine lv_iload_n hx hb dX7_pass_35 rfl (lv_at hl 1 rfl) ?_
    refine xtop (y := .int (nI (tn a1))) (congrArg Value.int e_a1) ?_
    refine lv_iadd hx hb dX7_pass_36 ?_
    refine xtop (y := .int (nI (cN τ 5 + (tn a1)))) (congrArg Value.int (nI_add _ _)) ?_
    refine xputC 12 hx hb hts hin7 tyX7 tyX7_ok nmX7 hown I hS hF hR.f0 rfl (by decide) (List.mem_of_getElem? (i := 3) rfl) rfl rfl rfl rfl rfl (Nat.le_of_ble_eq_true rfl) (hR.p0_12 (i := 0) (cN τ 5 + (tn a1))) (hR.2.2.1 0 0 rfl) dX7_pass_37 (fun H locs hw I hR hF hS => ?_)
    have hR : RC E Pr (cSK τ 5 0 (cN τ 5 + (tn a1))) ad fa hw := hR
    have hW : CW (cSK τ 5 0 (cN τ 5 + (tn a1))) := hW.s5 (by omega)
    refine lv_aload_n hx hb dX7_pass_40 rfl (lv_at hl 0 rfl) ?_
    refine xget (C := RX7) (T := TX7) (N := 14) 12 hx hb hts hin7 hown I hR.f0 rfl (by decide) (List.mem_of_getElem? (i := 3) rfl) rfl rfl dX7_pass_41 ?_
    refine W.eq (g2 := F0 m 44 ls [.int (nI (cN τ 5 + (tn a1)))]) rfl ?_
    exact xriX hx hb hr hlocks dX7_pass_44 I hS ⟨_, hG.symm, rfl, hR, hF, hW⟩ (Nat.le_of_ble_eq_true rfl) (Nat.le_of_ble_eq_true rfl)
  · skip
    rw [if_neg c_17] at hG
    have d_17 : ¬ (cN τ 5 + (tn a1)) < 2000 := fun q => c_17 ((nI_ltI (a := (cN τ 5 + (tn a1))) (b := 2000) (by omega) (by omega)).mpr q)
    exact xthS (ik := 57) (is := 124) (ic := 61) (X := "java/lang/IllegalStateException") (text := "the day would be above 1999") hx hb hlst hown hts (by decide) (List.mem_of_getElem? (i := 1) rfl) (List.mem_of_getElem? (i := 2) rfl) hg61 (by decide) hT0 I hS (hl.1.trans hml.symm) dX7_pass_20 dX7_pass_23 dX7_pass_24 dX7_pass_26 dX7_pass_29 hout (Nat.le_of_ble_eq_true rfl) (Nat.le_of_ble_eq_true rfl) (Nat.le_of_ble_eq_true rfl) (Nat.le_of_ble_eq_true rfl) hlocks hG.symm (Nat.le_of_ble_eq_true rfl) (Nat.le_of_ble_eq_true rfl)

def fX7_estimate (τ : CT) (a1 : Int32) (a2 : Int32) : (String ⊕ (Int32 × CT)) := (xbindE (fX7_claimOf τ a1) (fun x2 => (xbindE (fX7_checkLoss a2) (fun _ => (xbindE (fX7_checkUnsettled τ x2) (fun _ => (Sum.inr ((cI τ 24 x2), (cSI τ 24 x2 (nI (tn a2)))))))))))
set_option maxHeartbeats 4000000 in
set_option maxRecDepth 100000 in
theorem mX7_estimate (l : Launch) (lo : Nat) (D : va_G) (E : Nat → ClassId) (h : XW) (hlst : l.stackTraces = false) (Pr : Nat → Prop) (τ : CT) (ad : Nat → Nat → Nat) (fa : Nat → Nat → Option Nat) (hR : RC E Pr τ ad fa h) (hW : CW τ) (a1 : Int32) (a2 : Int32) : vx_Met l yX7_estimate wsX7_estimate ({ frames := 8, cells := 3, slots := 18, locals := 132 } : Room) (xP lo D E h [.ref (ad 0 0), .int a1, .int a2]) (xQ lo D (fun v h' => ∃ x, (fX7_estimate τ a1 a2) = .inr x ∧ v = some (.int x.1) ∧ RC E Pr (x.2) ad fa h' ∧ cF Pr h h' ∧ CW x.2)) (xXp lo D h (fun En => (fX7_estimate τ a1 a2) = .inl En)) 3 18 (xA lo) := by
  obtain ⟨G, hG⟩ : ∃ G, fX7_estimate τ a1 a2 = G := ⟨_, rfl⟩
  rw [hG]
  unfold fX7_estimate at hG
  refine vx_ofW (cc := cX7_estimate) (maxL := 5) (ret := (some .int)) (by decide) rfl ?_
  intro p e s m args below meth c s₁ B hml hout hv
  obtain ⟨rfl, I⟩ := hv
  have hx := B.exec
  have hb := B.bytes
  have hr := B.returns
  have hts := atoms_spec (ws := wsX7_estimate) B.pre
  have hown : s.vm.findClass RX7 = some m.cls := findClass_of_methodNamed B.named
  have hlocks := B.notSynchronized
  have hl := lv_entry ([.ref (ad 0 0), .int a1, .int a2] : List Value) (n := 5) (Nat.le_of_ble_eq_true rfl)
  rw [lg_entry_eq]
  generalize (lg_sl ([.ref (ad 0 0), .int a1, .int a2] : List Value) ++ List.replicate (5 - (lg_sl ([.ref (ad 0 0), .int a1, .int a2] : List Value)).length) Slot.unset).toArray = ls at hl ⊢
  have hl : lv_has ls 5 [(0, .ref (ad 0 0)), (1, .int a1), (2, .int a2)] := hl
  have hin7 : ∀ w ∈ u_ws RX7 TX7 14, w ∈ wsX7_estimate := fun _ h => List.mem_cons_of_mem _ (List.mem_append_left _ (List.mem_append_left _ (List.mem_append_left _ (List.mem_append_right _ (h)))))
  have hin0 : ∀ w ∈ u_ws RX0 TX0 8, w ∈ wsX7_estimate := fun _ h => List.mem_cons_of_mem _ (List.mem_append_left _ (List.mem_append_left _ (List.mem_append_left _ (List.mem_append_left _ (List.mem_append_right _ (h))))))
  have hg61 : ∀ w ∈ (vx_atS RX7 61 "java/lang/IllegalStateException" xnames).filter goodWord, w ∈ wsX7_estimate := fun _ h => List.mem_cons_of_mem _ (List.mem_append_right _ (h))
  have hg334 : ∀ w ∈ (vx_atS RX7 334 "java/lang/IndexOutOfBoundsException" xnames).filter goodWord, w ∈ wsX7_estimate := fun _ h => List.mem_cons_of_mem _ (List.mem_append_left _ (List.mem_append_left _ (List.mem_append_right _ (h))))
  have hg177 : ∀ w ∈ (vx_atS RX7 177 "java/lang/IllegalArgumentException" xnames).filter goodWord, w ∈ wsX7_estimate := fun _ h => List.mem_cons_of_mem _ (List.mem_append_left _ (List.mem_append_right _ (h)))
  have hW0 := hW
  obtain ⟨w0, -⟩ := id hW
  have hS : va_S (xA lo) s.heap s.heap [] := va_S.rf
  have hT0 : XT lo s s.heap := I.2.2.2.2
  have hF : cF Pr h h := cF.rf
  refine lv_aload_n hx hb dX7_estimate_0 rfl (lv_at hl 0 rfl) ?_
  refine lv_iload_n hx hb dX7_estimate_1 rfl (lv_at hl 1 rfl) ?_
  refine xcvX (As := [.int a1]) (rest := []) ⟨hx, hb, hml, hown, hts⟩ (mX7_claimOf l lo D E h hlst Pr τ ad fa hR hW a1) (cwV 1 hts gX7_estimate_X7_claimOf rfl rfl rfl (by decide +kernel) ⟨Nat.le_of_ble_eq_true rfl, Nat.le_of_ble_eq_true rfl⟩) I hS hR.f0 rfl rfl hl.1 rfl (Nat.le_of_ble_eq_true rfl) dX7_estimate_2 ⟨Nat.le_of_ble_eq_true rfl, Nat.le_of_ble_eq_true rfl⟩ hout hlocks (fun En q => by rw [q] at hG; exact hG.symm) ⟨Nat.le_of_ble_eq_true rfl, Nat.le_of_ble_eq_true rfl⟩ (fun v9 hw9 H locs q9 I hS => ?_)
  obtain ⟨x2, e2, q1, q2⟩ := q9
  subst q1
  rw [q2] at I
  rw [e2] at hG
  have hG : (xbindE (fX7_checkLoss a2) (fun _ => (xbindE (fX7_checkUnsettled τ x2) (fun _ => (Sum.inr ((cI τ 24 x2), (cSI τ 24 x2 (nI (tn a2))))))))) = G := hG
  obtain ⟨l_x2, e_x2⟩ := okc_claimOf hW0 e2
  refine W.eq (g2 := F0 m 5 ls [.ref (ad 16 x2)]) rfl ?_
  refine lv_astore_n (lv' := [(3, .ref (ad 16 x2)), (0, .ref (ad 0 0)), (1, .int a1), (2, .int a2)]) hx hb dX7_estimate_5 rfl hl (by decide) rfl (fun ls hl => ?_)
  refine lv_iload_n hx hb dX7_estimate_6 rfl (lv_at hl 3 rfl) ?_
  refine xcsX (As := [.int a2]) (rest := []) ⟨hx, hb, hml, hown, hts⟩ (mX7_checkLoss l lo D E h hlst a2) (va_cwS 1 hts gX7_estimate_X7_checkLoss rfl rfl rfl (by decide +kernel) ⟨Nat.le_of_ble_eq_true rfl, Nat.le_of_ble_eq_true rfl⟩) I hS rfl hl.1 rfl (Nat.le_of_ble_eq_true rfl) dX7_estimate_7 ⟨Nat.le_of_ble_eq_true rfl, Nat.le_of_ble_eq_true rfl⟩ hout hlocks (fun En q => by rw [q] at hG; exact hG.symm) ⟨Nat.le_of_ble_eq_true rfl, Nat.le_of_ble_eq_true rfl⟩ (fun v9 hw9 H locs q9 I hS => ?_)
  obtain ⟨x7, e7, q1, q2⟩ := q9
  subst q1
  rw [q2] at I
  rw [e7] at hG
  have hG : (xbindE (fX7_checkUnsettled τ x2) (fun _ => (Sum.inr ((cI τ 24 x2), (cSI τ 24 x2 (nI (tn a2))))))) = G := hG
  obtain ⟨e_a2, l_a2⟩ := okc_checkLoss e7
  refine W.eq (g2 := F0 m 10 ls []) rfl ?_
  refine lv_aload_n hx hb dX7_estimate_10 rfl (lv_at hl 0 rfl) ?_
  refine xcsX (As := [.ref (ad 16 x2)]) (rest := []) ⟨hx, hb, hml, hown, hts⟩ (mX7_checkUnsettled l lo D E h hlst Pr τ ad fa hR hW x2 (show x2 < cN τ 3 by first | assumption | omega)) (va_cwS 1 hts gX7_estimate_X7_checkUnsettled rfl rfl rfl (by decide +kernel) ⟨Nat.le_of_ble_eq_true rfl, Nat.le_of_ble_eq_true rfl⟩) I hS rfl hl.1 rfl (Nat.le_of_ble_eq_true rfl) dX7_estimate_11 ⟨Nat.le_of_ble_eq_true rfl, Nat.le_of_ble_eq_true rfl⟩ hout hlocks (fun En q => by rw [q] at hG; exact hG.symm) ⟨Nat.le_of_ble_eq_true rfl, Nat.le_of_ble_eq_true rfl⟩ (fun v9 hw9 H locs q9 I hS => ?_)
  obtain ⟨x11, e11, q1, q2⟩ := q9
  subst q1
  rw [q2] at I
  rw [e11] at hG
  have hG : (Sum.inr ((cI τ 24 x2), (cSI τ 24 x2 (nI (tn a2))))) = G := hG
  refine W.eq (g2 := F0 m 14 ls []) rfl ?_
  refine lv_aload_n hx hb dX7_estimate_14 rfl (lv_at hl 0 rfl) ?_
  refine xget (C := RX0) (T := TX0) (N := 8) 3 hx hb hts hin0 hown I (hR.f16 (show x2 < cN τ 3 by first | assumption | omega)) rfl (by decide) (List.mem_of_getElem? (i := 1) rfl) rfl rfl dX7_estimate_15 ?_
  refine lv_istore (lv' := [(4, .int (cI τ 24 x2)), (3, .ref (ad 16 x2)), (0, .ref (ad 0 0)), (1, .int a1), (2, .int a2)]) hx hb dX7_estimate_18 hl (by decide) rfl (fun ls hl => ?_)
  refine lv_aload_n hx hb dX7_estimate_20 rfl (lv_at hl 1 rfl) ?_
  refine lv_iload_n hx hb dX7_estimate_21 rfl (lv_at hl 4 rfl) ?_
  refine xtop (y := .int (nI (tn a2))) (congrArg Value.int e_a2) ?_
  refine xputC 3 hx hb hts hin0 tyX0 tyX0_ok nmX0 hown I hS hF (hR.f16 (show x2 < cN τ 3 by first | assumption | omega)) rfl (by decide) (List.mem_of_getElem? (i := 1) rfl) rfl rfl rfl rfl rfl (Nat.le_of_ble_eq_true rfl) (hR.p16_3 (show x2 < cN τ 3 by first | assumption | omega) (nI (tn a2))) (hR.2.2.1 16 x2 (show x2 < cN τ 3 by first | assumption | omega)) dX7_estimate_22 (fun H locs hw I hR hF hS => ?_)
  have hR : RC E Pr (cSI τ 24 x2 (nI (tn a2))) ad fa hw := hR
  have hW : CW (cSI τ 24 x2 (nI (tn a2))) := hW.sI (t := 24) (by decide) x2 (nI (tn a2))
  refine lv_iload hx hb dX7_estimate_25 (lv_at hl 0 rfl) ?_
  exact xriX hx hb hr hlocks dX7_estimate_27 I hS ⟨_, hG.symm, rfl, hR, hF, hW⟩ (Nat.le_of_ble_eq_true rfl) (Nat.le_of_ble_eq_true rfl)

def fX7_settle (τ : CT) (a1 : Int32) (a2 : Int32) : (String ⊕ CT) := (xbindE (fX7_claimOf τ a1) (fun x2 => (xbindE (fX7_checkUnsettled τ x2) (fun _ => (if a2 = 0 then (Sum.inr (cSI τ 26 x2 (nI 1))) else (Sum.inr (cSI (cSI τ 26 x2 (nI 1)) 24 x2 (nI 0))))))))
set_option maxHeartbeats 4000000 in
set_option maxRecDepth 100000 in
theorem mX7_settle (l : Launch) (lo : Nat) (D : va_G) (E : Nat → ClassId) (h : XW) (hlst : l.stackTraces = false) (Pr : Nat → Prop) (τ : CT) (ad : Nat → Nat → Nat) (fa : Nat → Nat → Option Nat) (hR : RC E Pr τ ad fa h) (hW : CW τ) (a1 : Int32) (a2 : Int32) (za2 : a2 = 0 ∨ a2 = 1) : vx_Met l yX7_settle wsX7_settle ({ frames := 7, cells := 2, slots := 12, locals := 111 } : Room) (xP lo D E h [.ref (ad 0 0), .int a1, .int a2]) (xQ lo D (fun v h' => ∃ x, (fX7_settle τ a1 a2) = .inr x ∧ v = none ∧ RC E Pr (x) ad fa h' ∧ cF Pr h h' ∧ CW x)) (xXp lo D h (fun En => (fX7_settle τ a1 a2) = .inl En)) 2 12 (xA lo) := by
  obtain ⟨G, hG⟩ : ∃ G, fX7_settle τ a1 a2 = G := ⟨_, rfl⟩
  rw [hG]
  unfold fX7_settle at hG
  refine vx_ofW (cc := cX7_settle) (maxL := 4) (ret := none) (by decide) rfl ?_
  intro p e s m args below meth c s₁ B hml hout hv
  obtain ⟨rfl, I⟩ := hv
  have hx := B.exec
  have hb := B.bytes
  have hr := B.returns
  have hts := atoms_spec (ws := wsX7_settle) B.pre
  have hown : s.vm.findClass RX7 = some m.cls := findClass_of_methodNamed B.named
  have hlocks := B.notSynchronized
  have hl := lv_entry ([.ref (ad 0 0), .int a1, .int a2] : List Value) (n := 4) (Nat.le_of_ble_eq_true rfl)
  rw [lg_entry_eq]
  generalize (lg_sl ([.ref (ad 0 0), .int a1, .int a2] : List Value) ++ List.replicate (4 - (lg_sl ([.ref (ad 0 0), .int a1, .int a2] : List Value)).length) Slot.unset).toArray = ls at hl ⊢
  have hl : lv_has ls 4 [(0, .ref (ad 0 0)), (1, .int a1), (2, .int a2)] := hl
  have hin7 : ∀ w ∈ u_ws RX7 TX7 14, w ∈ wsX7_settle := fun _ h => List.mem_cons_of_mem _ (List.mem_append_left _ (List.mem_append_left _ (List.mem_append_right _ (h))))
  have hin0 : ∀ w ∈ u_ws RX0 TX0 8, w ∈ wsX7_settle := fun _ h => List.mem_cons_of_mem _ (List.mem_append_left _ (List.mem_append_left _ (List.mem_append_left _ (List.mem_append_right _ (h)))))
  have hg61 : ∀ w ∈ (vx_atS RX7 61 "java/lang/IllegalStateException" xnames).filter goodWord, w ∈ wsX7_settle := fun _ h => List.mem_cons_of_mem _ (List.mem_append_right _ (h))
  have hg334 : ∀ w ∈ (vx_atS RX7 334 "java/lang/IndexOutOfBoundsException" xnames).filter goodWord, w ∈ wsX7_settle := fun _ h => List.mem_cons_of_mem _ (List.mem_append_left _ (List.mem_append_right _ (h)))
  have hW0 := hW
  obtain ⟨w0, -⟩ := id hW
  have hS : va_S (xA lo) s.heap s.heap [] := va_S.rf
  have hT0 : XT lo s s.heap := I.2.2.2.2
  have hF : cF Pr h h := cF.rf
  refine lv_aload_n hx hb dX7_settle_0 rfl (lv_at hl 0 rfl) ?_
  refine lv_iload_n hx hb dX7_settle_1 rfl (lv_at hl 1 rfl) ?_
  refine xcvX (As := [.int a1]) (rest := []) ⟨hx, hb, hml, hown, hts⟩ (mX7_claimOf l lo D E h hlst Pr τ ad fa hR hW a1) (cwV 1 hts gX7_settle_X7_claimOf rfl rfl rfl (by decide +kernel) ⟨Nat.le_of_ble_eq_true rfl, Nat.le_of_ble_eq_true rfl⟩) I hS hR.f0 rfl rfl hl.1 rfl (Nat.le_of_ble_eq_true rfl) dX7_settle_2 ⟨Nat.le_of_ble_eq_true rfl, Nat.le_of_ble_eq_true rfl⟩ hout hlocks (fun En q => by rw [q] at hG; exact hG.symm) ⟨Nat.le_of_ble_eq_true rfl, Nat.le_of_ble_eq_true rfl⟩ (fun v9 hw9 H locs q9 I hS => ?_)
  obtain ⟨x2, e2, q1, q2⟩ := q9
  subst q1
  rw [q2] at I
  rw [e2] at hG
  have hG : (xbindE (fX7_checkUnsettled τ x2) (fun _ => (if a2 = 0 then (Sum.inr (cSI τ 26 x2 (nI 1))) else (Sum.inr (cSI (cSI τ 26 x2 (nI 1)) 24 x2 (nI 0)))))) = G := hG
  obtain ⟨l_x2, e_x2⟩ := okc_claimOf hW0 e2
  refine W.eq (g2 := F0 m 5 ls [.ref (ad 16 x2)]) rfl ?_
  refine lv_astore_n (lv' := [(3, .ref (ad 16 x2)), (0, .ref (ad 0 0)), (1, .int a1), (2, .int a2)]) hx hb dX7_settle_5 rfl hl (by decide) rfl (fun ls hl => ?_)
  refine lv_aload_n hx hb dX7_settle_6 rfl (lv_at hl 0 rfl) ?_
  refine xcsX (As := [.ref (ad 16 x2)]) (rest := []) ⟨hx, hb, hml, hown, hts⟩ (mX7_checkUnsettled l lo D E h hlst Pr τ ad fa hR hW x2 (show x2 < cN τ 3 by first | assumption | omega)) (va_cwS 1 hts gX7_settle_X7_checkUnsettled rfl rfl rfl (by decide +kernel) ⟨Nat.le_of_ble_eq_true rfl, Nat.le_of_ble_eq_true rfl⟩) I hS rfl hl.1 rfl (Nat.le_of_ble_eq_true rfl) dX7_settle_7 ⟨Nat.le_of_ble_eq_true rfl, Nat.le_of_ble_eq_true rfl⟩ hout hlocks (fun En q => by rw [q] at hG; exact hG.symm) ⟨Nat.le_of_ble_eq_true rfl, Nat.le_of_ble_eq_true rfl⟩ (fun v9 hw9 H locs q9 I hS => ?_)
  obtain ⟨x7, e7, q1, q2⟩ := q9
  subst q1
  rw [q2] at I
  rw [e7] at hG
  have hG : (if a2 = 0 then (Sum.inr (cSI τ 26 x2 (nI 1))) else (Sum.inr (cSI (cSI τ 26 x2 (nI 1)) 24 x2 (nI 0)))) = G := hG
  refine W.eq (g2 := F0 m 10 ls []) rfl ?_
  refine lv_aload_n hx hb dX7_settle_10 rfl (lv_at hl 0 rfl) ?_
  refine lv_iconst (v := (nI 1)) hx hb dX7_settle_11 (by decide) ?_
  refine xputC 5 hx hb hts hin0 tyX0 tyX0_ok nmX0 hown I hS hF (hR.f16 (show x2 < cN τ 3 by first | assumption | omega)) rfl (by decide) (List.mem_of_getElem? (i := 1) rfl) rfl rfl rfl rfl rfl (Nat.le_of_ble_eq_true rfl) (hR.p16_5 (show x2 < cN τ 3 by first | assumption | omega) (nI 1)) (hR.2.2.1 16 x2 (show x2 < cN τ 3 by first | assumption | omega)) dX7_settle_12 (fun H locs hw I hR hF hS => ?_)
  have hR : RC E Pr (cSI τ 26 x2 (nI 1)) ad fa hw := hR
  have hW : CW (cSI τ 26 x2 (nI 1)) := hW.sB 26 x2 (Or.inr rfl)
  refine lv_iload_n hx hb dX7_settle_15 rfl (lv_at hl 3 rfl) ?_
  refine lv_if_eq (tgt := 24) hx hb dX7_settle_16 (by decide) (fun c_16 => ?_) (fun c_16 => ?_)
  · skip
    rw [if_pos c_16] at hG
    exact xrvX hx hb hr hlocks dX7_settle_24 I hS ⟨_, hG.symm, rfl, hR, hF, hW⟩ (Nat.le_of_ble_eq_true rfl) (Nat.le_of_ble_eq_true rfl)
  · skip
    rw [if_neg c_16] at hG
    refine lv_aload_n hx hb dX7_settle_19 rfl (lv_at hl 0 rfl) ?_
    refine lv_iconst (v := (nI 0)) hx hb dX7_settle_20 (by decide) ?_
    refine xputC 3 hx hb hts hin0 tyX0 tyX0_ok nmX0 hown I hS hF (hR.f16 (show x2 < cN τ 3 by first | assumption | omega)) rfl (by decide) (List.mem_of_getElem? (i := 2) rfl) rfl rfl rfl rfl rfl (Nat.le_of_ble_eq_true rfl) (hR.p16_3 (show x2 < cN τ 3 by first | assumption | omega) (nI 0)) (hR.2.2.1 16 x2 (show x2 < cN τ 3 by first | assumption | omega)) dX7_settle_21 (fun H locs hw I hR hF hS => ?_)
    have hR : RC E Pr (cSI (cSI τ 26 x2 (nI 1)) 24 x2 (nI 0)) ad fa hw := hR
    have hW : CW (cSI (cSI τ 26 x2 (nI 1)) 24 x2 (nI 0)) := hW.sI (t := 24) (by decide) x2 (nI 0)
    exact xrvX hx hb hr hlocks dX7_settle_24 I hS ⟨_, hG.symm, rfl, hR, hF, hW⟩ (Nat.le_of_ble_eq_true rfl) (Nat.le_of_ble_eq_true rfl)

def fX7_broken (τ : CT) (a1 : Int32) : (String ⊕ CT) := (xbindE (fX7_claimOf τ a1) (fun x2 => (xbindE (fX7_checkUnsettled τ x2) (fun _ => (if (cI τ 27 x2) = 0 then (Sum.inr (cSI τ 27 x2 (nI 1))) else (Sum.inl "java/lang/IllegalStateException"))))))
set_option maxHeartbeats 4000000 in
set_option maxRecDepth 100000 in
theorem mX7_broken (l : Launch) (lo : Nat) (D : va_G) (E : Nat → ClassId) (h : XW) (hlst : l.stackTraces = false) (Pr : Nat → Prop) (τ : CT) (ad : Nat → Nat → Nat) (fa : Nat → Nat → Option Nat) (hR : RC E Pr τ ad fa h) (hW : CW τ) (a1 : Int32) : vx_Met l yX7_broken wsX7_broken ({ frames := 7, cells := 3, slots := 18, locals := 111 } : Room) (xP lo D E h [.ref (ad 0 0), .int a1]) (xQ lo D (fun v h' => ∃ x, (fX7_broken τ a1) = .inr x ∧ v = none ∧ RC E Pr (x) ad fa h' ∧ cF Pr h h' ∧ CW x)) (xXp lo D h (fun En => (fX7_broken τ a1) = .inl En)) 3 18 (xA lo) := by
  obtain ⟨G, hG⟩ : ∃ G, fX7_broken τ a1 = G := ⟨_, rfl⟩
  rw [hG]
  unfold fX7_broken at hG
  refine vx_ofW (cc := cX7_broken) (maxL := 3) (ret := none) (by decide) rfl ?_
  intro p e s m args below meth c s₁ B hml hout hv
  obtain ⟨rfl, I⟩ := hv
  have hx := B.exec
  have hb := B.bytes
  have hr := B.returns
  have hts := atoms_spec (ws := wsX7_broken) B.pre
  have hown : s.vm.findClass RX7 = some m.cls := findClass_of_methodNamed B.named
  have hlocks := B.notSynchronized
  have hl := lv_entry ([.ref (ad 0 0), .int a1] : List Value) (n := 3) (Nat.le_of_ble_eq_true rfl)
  rw [lg_entry_eq]
  generalize (lg_sl ([.ref (ad 0 0), .int a1] : List Value) ++ List.replicate (3 - (lg_sl ([.ref (ad 0 0), .int a1] : List Value)).length) Slot.unset).toArray = ls at hl ⊢
  have hl : lv_has ls 3 [(0, .ref (ad 0 0)), (1, .int a1)] := hl
  have hin7 : ∀ w ∈ u_ws RX7 TX7 14, w ∈ wsX7_broken := fun _ h => List.mem_cons_of_mem _ (List.mem_append_left _ (List.mem_append_left _ (List.mem_append_right _ (h))))
  have hin0 : ∀ w ∈ u_ws RX0 TX0 8, w ∈ wsX7_broken := fun _ h => List.mem_cons_of_mem _ (List.mem_append_left _ (List.mem_append_left _ (List.mem_append_left _ (List.mem_append_right _ (h)))))
  have hg61 : ∀ w ∈ (vx_atS RX7 61 "java/lang/IllegalStateException" xnames).filter goodWord, w ∈ wsX7_broken := fun _ h => List.mem_cons_of_mem _ (List.mem_append_left _ (List.mem_append_right _ (h)))
  have hg334 : ∀ w ∈ (vx_atS RX7 334 "java/lang/IndexOutOfBoundsException" xnames).filter goodWord, w ∈ wsX7_broken := fun _ h => List.mem_cons_of_mem _ (List.mem_append_right _ (h))
  have hW0 := hW
  obtain ⟨w0, -⟩ := id hW
  have hS : va_S (xA lo) s.heap s.heap [] := va_S.rf
  have hT0 : XT lo s s.heap := I.2.2.2.2
  have hF : cF Pr h h := cF.rf
  refine lv_aload_n hx hb dX7_broken_0 rfl (lv_at hl 0 rfl) ?_
  refine lv_iload_n hx hb dX7_broken_1 rfl (lv_at hl 1 rfl) ?_
  refine xcvX (As := [.int a1]) (rest := []) ⟨hx, hb, hml, hown, hts⟩ (mX7_claimOf l lo D E h hlst Pr τ ad fa hR hW a1) (cwV 1 hts gX7_broken_X7_claimOf rfl rfl rfl (by decide +kernel) ⟨Nat.le_of_ble_eq_true rfl, Nat.le_of_ble_eq_true rfl⟩) I hS hR.f0 rfl rfl hl.1 rfl (Nat.le_of_ble_eq_true rfl) dX7_broken_2 ⟨Nat.le_of_ble_eq_true rfl, Nat.le_of_ble_eq_true rfl⟩ hout hlocks (fun En q => by rw [q] at hG; exact hG.symm) ⟨Nat.le_of_ble_eq_true rfl, Nat.le_of_ble_eq_true rfl⟩ (fun v9 hw9 H locs q9 I hS => ?_)
  obtain ⟨x2, e2, q1, q2⟩ := q9
  subst q1
  rw [q2] at I
  rw [e2] at hG
  have hG : (xbindE (fX7_checkUnsettled τ x2) (fun _ => (if (cI τ 27 x2) = 0 then (Sum.inr (cSI τ 27 x2 (nI 1))) else (Sum.inl "java/lang/IllegalStateException")))) = G := hG
  obtain ⟨l_x2, e_x2⟩ := okc_claimOf hW0 e2
  refine W.eq (g2 := F0 m 5 ls [.ref (ad 16 x2)]) rfl ?_
  refine lv_astore_n (lv' := [(2, .ref (ad 16 x2)), (0, .ref (ad 0 0)), (1, .int a1)]) hx hb dX7_broken_5 rfl hl (by decide) rfl (fun ls hl => ?_)
  refine lv_aload_n hx hb dX7_broken_6 rfl (lv_at hl 0 rfl) ?_
  refine xcsX (As := [.ref (ad 16 x2)]) (rest := []) ⟨hx, hb, hml, hown, hts⟩ (mX7_checkUnsettled l lo D E h hlst Pr τ ad fa hR hW x2 (show x2 < cN τ 3 by first | assumption | omega)) (va_cwS 1 hts gX7_broken_X7_checkUnsettled rfl rfl rfl (by decide +kernel) ⟨Nat.le_of_ble_eq_true rfl, Nat.le_of_ble_eq_true rfl⟩) I hS rfl hl.1 rfl (Nat.le_of_ble_eq_true rfl) dX7_broken_7 ⟨Nat.le_of_ble_eq_true rfl, Nat.le_of_ble_eq_true rfl⟩ hout hlocks (fun En q => by rw [q] at hG; exact hG.symm) ⟨Nat.le_of_ble_eq_true rfl, Nat.le_of_ble_eq_true rfl⟩ (fun v9 hw9 H locs q9 I hS => ?_)
  obtain ⟨x7, e7, q1, q2⟩ := q9
  subst q1
  rw [q2] at I
  rw [e7] at hG
  have hG : (if (cI τ 27 x2) = 0 then (Sum.inr (cSI τ 27 x2 (nI 1))) else (Sum.inl "java/lang/IllegalStateException")) = G := hG
  refine W.eq (g2 := F0 m 10 ls []) rfl ?_
  refine lv_aload_n hx hb dX7_broken_10 rfl (lv_at hl 0 rfl) ?_
  refine xget (C := RX0) (T := TX0) (N := 8) 6 hx hb hts hin0 hown I (hR.f16 (show x2 < cN τ 3 by first | assumption | omega)) rfl (by decide) (List.mem_of_getElem? (i := 3) rfl) rfl rfl dX7_broken_11 ?_
  refine lv_if_eq (tgt := 27) hx hb dX7_broken_14 (by decide) (fun c_14 => ?_) (fun c_14 => ?_)
  · skip
    rw [if_pos c_14] at hG
    refine lv_aload_n hx hb dX7_broken_27 rfl (lv_at hl 0 rfl) ?_
    refine lv_iconst (v := (nI 1)) hx hb dX7_broken_28 (by decide) ?_
    refine xputC 6 hx hb hts hin0 tyX0 tyX0_ok nmX0 hown I hS hF (hR.f16 (show x2 < cN τ 3 by first | assumption | omega)) rfl (by decide) (List.mem_of_getElem? (i := 3) rfl) rfl rfl rfl rfl rfl (Nat.le_of_ble_eq_true rfl) (hR.p16_6 (show x2 < cN τ 3 by first | assumption | omega) (nI 1)) (hR.2.2.1 16 x2 (show x2 < cN τ 3 by first | assumption | omega)) dX7_broken_29 (fun H locs hw I hR hF hS => ?_)
    have hR : RC E Pr (cSI τ 27 x2 (nI 1)) ad fa hw := hR
    have hW : CW (cSI τ 27 x2 (nI 1)) := hW.sB 27 x2 (Or.inr rfl)
    exact xrvX hx hb hr hlocks dX7_broken_32 I hS ⟨_, hG.symm, rfl, hR, hF, hW⟩ (Nat.le_of_ble_eq_true rfl) (Nat.le_of_ble_eq_true rfl)
  · skip
    rw [if_neg c_14] at hG
    exact xthS (ik := 57) (is := 212) (ic := 61) (X := "java/lang/IllegalStateException") (text := "the limitation of the claim is broken") hx hb hlst hown hts (by decide) (List.mem_of_getElem? (i := 1) rfl) (List.mem_of_getElem? (i := 2) rfl) hg61 (by decide) hT0 I hS (hl.1.trans hml.symm) dX7_broken_17 dX7_broken_20 dX7_broken_21 dX7_broken_23 dX7_broken_26 hout (Nat.le_of_ble_eq_true rfl) (Nat.le_of_ble_eq_true rfl) (Nat.le_of_ble_eq_true rfl) (Nat.le_of_ble_eq_true rfl) hlocks hG.symm (Nat.le_of_ble_eq_true rfl) (Nat.le_of_ble_eq_true rfl)

def fX7_leave (τ : CT) (a1 : Int32) : (String ⊕ (Int32 × CT)) := (xbindE (fX7_shipOf τ a1) (fun x2 => (if cK τ 14 x2 = 0 then (Sum.inl "java/lang/IllegalStateException") else (Sum.inr (((nI (cN τ 5)) - (cI τ 22 (cK τ 14 x2 - 1))), (cSK (cSI τ 23 (cK τ 14 x2 - 1) (nI (cN τ 5))) 14 x2 0))))))
set_option maxHeartbeats 4000000 in
set_option maxRecDepth 100000 in
theorem mX7_leave (l : Launch) (lo : Nat) (D : va_G) (E : Nat → ClassId) (h : XW) (hlst : l.stackTraces = false) (Pr : Nat → Prop) (τ : CT) (ad : Nat → Nat → Nat) (fa : Nat → Nat → Option Nat) (hR : RC E Pr τ ad fa h) (hW : CW τ) (a1 : Int32) : vx_Met l yX7_leave wsX7_leave ({ frames := 7, cells := 2, slots := 12, locals := 111 } : Room) (xP lo D E h [.ref (ad 0 0), .int a1]) (xQ lo D (fun v h' => ∃ x, (fX7_leave τ a1) = .inr x ∧ v = some (.int x.1) ∧ RC E Pr (x.2) ad fa h' ∧ cF Pr h h' ∧ CW x.2)) (xXp lo D h (fun En => (fX7_leave τ a1) = .inl En)) 2 12 (xA lo) := by
  obtain ⟨G, hG⟩ : ∃ G, fX7_leave τ a1 = G := ⟨_, rfl⟩
  rw [hG]
  unfold fX7_leave at hG
  refine vx_ofW (cc := cX7_leave) (maxL := 4) (ret := (some .int)) (by decide) rfl ?_
  intro p e s m args below meth c s₁ B hml hout hv
  obtain ⟨rfl, I⟩ := hv
  have hx := B.exec
  have hb := B.bytes
  have hr := B.returns
  have hts := atoms_spec (ws := wsX7_leave) B.pre
  have hown : s.vm.findClass RX7 = some m.cls := findClass_of_methodNamed B.named
  have hlocks := B.notSynchronized
  have hl := lv_entry ([.ref (ad 0 0), .int a1] : List Value) (n := 4) (Nat.le_of_ble_eq_true rfl)
  rw [lg_entry_eq]
  generalize (lg_sl ([.ref (ad 0 0), .int a1] : List Value) ++ List.replicate (4 - (lg_sl ([.ref (ad 0 0), .int a1] : List Value)).length) Slot.unset).toArray = ls at hl ⊢
  have hl : lv_has ls 4 [(0, .ref (ad 0 0)), (1, .int a1)] := hl
  have hin7 : ∀ w ∈ u_ws RX7 TX7 14, w ∈ wsX7_leave := fun _ h => List.mem_cons_of_mem _ (List.mem_append_left _ (List.mem_append_left _ (List.mem_append_left _ (List.mem_append_right _ (h)))))
  have hin5 : ∀ w ∈ u_ws RX5 TX5 4, w ∈ wsX7_leave := fun _ h => List.mem_cons_of_mem _ (List.mem_append_left _ (List.mem_append_left _ (List.mem_append_left _ (List.mem_append_left _ (List.mem_append_right _ (h))))))
  have hin1 : ∀ w ∈ u_ws RX1 TX1 3, w ∈ wsX7_leave := fun _ h => List.mem_cons_of_mem _ (List.mem_append_left _ (List.mem_append_left _ (List.mem_append_right _ (h))))
  have hg61 : ∀ w ∈ (vx_atS RX7 61 "java/lang/IllegalStateException" xnames).filter goodWord, w ∈ wsX7_leave := fun _ h => List.mem_cons_of_mem _ (List.mem_append_left _ (List.mem_append_right _ (h)))
  have hg334 : ∀ w ∈ (vx_atS RX7 334 "java/lang/IndexOutOfBoundsException" xnames).filter goodWord, w ∈ wsX7_leave := fun _ h => List.mem_cons_of_mem _ (List.mem_append_right _ (h))
  have hW0 := hW
  obtain ⟨w0, -⟩ := id hW
  have hS : va_S (xA lo) s.heap s.heap [] := va_S.rf
  have hT0 : XT lo s s.heap := I.2.2.2.2
  have hF : cF Pr h h := cF.rf
  refine lv_aload_n hx hb dX7_leave_0 rfl (lv_at hl 0 rfl) ?_
  refine lv_iload_n hx hb dX7_leave_1 rfl (lv_at hl 1 rfl) ?_
  refine xcvX (As := [.int a1]) (rest := []) ⟨hx, hb, hml, hown, hts⟩ (mX7_shipOf l lo D E h hlst Pr τ ad fa hR hW a1) (cwV 1 hts gX7_leave_X7_shipOf rfl rfl rfl (by decide +kernel) ⟨Nat.le_of_ble_eq_true rfl, Nat.le_of_ble_eq_true rfl⟩) I hS hR.f0 rfl rfl hl.1 rfl (Nat.le_of_ble_eq_true rfl) dX7_leave_2 ⟨Nat.le_of_ble_eq_true rfl, Nat.le_of_ble_eq_true rfl⟩ hout hlocks (fun En q => by rw [q] at hG; exact hG.symm) ⟨Nat.le_of_ble_eq_true rfl, Nat.le_of_ble_eq_true rfl⟩ (fun v9 hw9 H locs q9 I hS => ?_)
  obtain ⟨x2, e2, q1, q2⟩ := q9
  subst q1
  rw [q2] at I
  rw [e2] at hG
  have hG : (if cK τ 14 x2 = 0 then (Sum.inl "java/lang/IllegalStateException") else (Sum.inr (((nI (cN τ 5)) - (cI τ 22 (cK τ 14 x2 - 1))), (cSK (cSI τ 23 (cK τ 14 x2 - 1) (nI (cN τ 5))) 14 x2 0)))) = G := hG
  obtain ⟨l_x2, e_x2⟩ := okc_shipOf hW0 e2
  refine W.eq (g2 := F0 m 5 ls [.ref (ad 14 x2)]) rfl ?_
  refine lv_astore_n (lv' := [(2, .ref (ad 14 x2)), (0, .ref (ad 0 0)), (1, .int a1)]) hx hb dX7_leave_5 rfl hl (by decide) rfl (fun ls hl => ?_)
  refine lv_aload_n hx hb dX7_leave_6 rfl (lv_at hl 0 rfl) ?_
  refine xget (C := RX5) (T := TX5) (N := 4) 2 hx hb hts hin5 hown I (hR.f14 (show x2 < cN τ 1 by first | assumption | omega)) rfl (by decide) (List.mem_of_getElem? (i := 3) rfl) rfl rfl dX7_leave_7 ?_
  have b7_14 : cK τ 14 x2 ≤ cN τ 2 := hW.2.2.2.2.2.1 x2 (show x2 < cN τ 1 by first | assumption | omega)
  by_cases o_10 : cK τ 14 x2 = 0
  · skip
    rw [if_pos o_10] at hG
    refine xtop (y := .null) (by rw [if_pos o_10]; rfl) ?_
    refine lv_astore_nN (lv' := [(3, .null), (2, .ref (ad 14 x2)), (0, .ref (ad 0 0)), (1, .int a1)]) hx hb dX7_leave_10 rfl hl (by decide) rfl (fun ls hl => ?_)
    refine lv_aload_nN hx hb dX7_leave_11 rfl (lv_at hl 0 rfl) ?_
    refine lv_ifnonnullN hx hb dX7_leave_12 ?_
    exact xthS (ik := 57) (is := 116) (ic := 61) (X := "java/lang/IllegalStateException") (text := "the ship is not entered") hx hb hlst hown hts (by decide) (List.mem_of_getElem? (i := 1) rfl) (List.mem_of_getElem? (i := 2) rfl) hg61 (by decide) hT0 I hS (hl.1.trans hml.symm) dX7_leave_15 dX7_leave_18 dX7_leave_19 dX7_leave_21 dX7_leave_24 hout (Nat.le_of_ble_eq_true rfl) (Nat.le_of_ble_eq_true rfl) (Nat.le_of_ble_eq_true rfl) (Nat.le_of_ble_eq_true rfl) hlocks hG.symm (Nat.le_of_ble_eq_true rfl) (Nat.le_of_ble_eq_true rfl)
  · skip
    rw [if_neg o_10] at hG
    refine xtop (y := .ref (ad 15 (cK τ 14 x2 - 1))) (by rw [if_neg o_10]; rfl) ?_
    refine lv_astore_n (lv' := [(3, .ref (ad 15 (cK τ 14 x2 - 1))), (2, .ref (ad 14 x2)), (0, .ref (ad 0 0)), (1, .int a1)]) hx hb dX7_leave_10 rfl hl (by decide) rfl (fun ls hl => ?_)
    refine lv_aload_n hx hb dX7_leave_11 rfl (lv_at hl 0 rfl) ?_
    refine lv_ifnonnull (tgt := 25) hx hb dX7_leave_12 (by decide) ?_
    refine lv_aload_n hx hb dX7_leave_25 rfl (lv_at hl 0 rfl) ?_
    refine lv_aload_n hx hb dX7_leave_26 rfl (lv_at hl 2 rfl) ?_
    refine xget (C := RX7) (T := TX7) (N := 14) 12 hx hb hts hin7 hown I hR.f0 rfl (by decide) (List.mem_of_getElem? (i := 4) rfl) rfl rfl dX7_leave_27 ?_
    refine xputC 2 hx hb hts hin1 tyX1 tyX1_ok nmX1 hown I hS hF (hR.f15 (show cK τ 14 x2 - 1 < cN τ 2 by first | assumption | omega)) rfl (by decide) (List.mem_of_getElem? (i := 5) rfl) rfl rfl rfl rfl rfl (Nat.le_of_ble_eq_true rfl) (hR.p15_2 (show cK τ 14 x2 - 1 < cN τ 2 by first | assumption | omega) (nI (cN τ 5))) (hR.2.2.1 15 (cK τ 14 x2 - 1) (show cK τ 14 x2 - 1 < cN τ 2 by first | assumption | omega)) dX7_leave_30 (fun H locs hw I hR hF hS => ?_)
    have hR : RC E Pr (cSI τ 23 (cK τ 14 x2 - 1) (nI (cN τ 5))) ad fa hw := hR
    have hW : CW (cSI τ 23 (cK τ 14 x2 - 1) (nI (cN τ 5))) := hW.sI (t := 23) (by decide) (cK τ 14 x2 - 1) (nI (cN τ 5))
    refine lv_aload_n hx hb dX7_leave_33 rfl (lv_at hl 1 rfl) ?_
    refine lv_null hx hb dX7_leave_34 ?_
    refine xputC 2 hx hb hts hin5 tyX5 tyX5_ok nmX5 hown I hS hF (hR.f14 (show x2 < cN τ 1 by first | assumption | omega)) rfl (by decide) (List.mem_of_getElem? (i := 3) rfl) rfl rfl rfl rfl rfl (Nat.le_of_ble_eq_true rfl) (hR.p14_2 (show x2 < cN τ 1 by first | assumption | omega) 0) (hR.2.2.1 14 x2 (show x2 < cN τ 1 by first | assumption | omega)) dX7_leave_35 (fun H locs hw I hR hF hS => ?_)
    have hR : RC E Pr (cSK (cSI τ 23 (cK τ 14 x2 - 1) (nI (cN τ 5))) 14 x2 0) ad fa hw := hR
    have hW : CW (cSK (cSI τ 23 (cK τ 14 x2 - 1) (nI (cN τ 5))) 14 x2 0) := hW.s14 _ (Nat.zero_le _)
    refine lv_aload_n hx hb dX7_leave_38 rfl (lv_at hl 2 rfl) ?_
    refine xget (C := RX7) (T := TX7) (N := 14) 12 hx hb hts hin7 hown I hR.f0 rfl (by decide) (List.mem_of_getElem? (i := 4) rfl) rfl rfl dX7_leave_39 ?_
    refine W.eq (g2 := F0 m 42 ls [.int (nI (cN τ 5))]) rfl ?_
    refine lv_aload_n hx hb dX7_leave_42 rfl (lv_at hl 0 rfl) ?_
    refine xget (C := RX1) (T := TX1) (N := 3) 1 hx hb hts hin1 hown I (hR.f15 (show cK τ 14 x2 - 1 < cN τ 2 by first | assumption | omega)) rfl (by decide) (List.mem_of_getElem? (i := 6) rfl) rfl rfl dX7_leave_43 ?_
    refine W.eq (g2 := F0 m 46 ls [.int (cI τ 22 (cK τ 14 x2 - 1)), .int (nI (cN τ 5))]) rfl ?_
    refine lv_isub hx hb dX7_leave_46 ?_
    exact xriX hx hb hr hlocks dX7_leave_47 I hS ⟨_, hG.symm, rfl, hR, hF, hW⟩ (Nat.le_of_ble_eq_true rfl) (Nat.le_of_ble_eq_true rfl)

def fX7_advance_S18 (τ : CT) (a1 : Int32) (a2 : Int32) (k18 : Nat) : (Unit ⊕ (String ⊕ (Int32 × CT))) := (if (cM τ 1 k18 (tn a1)) = 0 then (Sum.inl ()) else (Sum.inr (Sum.inl "java/lang/IllegalStateException")))
def fX7_advance_L18 (τ : CT) (a1 : Int32) (a2 : Int32) : Nat → Nat → (String ⊕ (Int32 × CT))
  | 0, k18 => (Sum.inr ((cI τ 31 (tn a1)), (cSI τ 31 (tn a1) (nI (tn a2)))))
  | n18 + 1, k18 => lbind (fX7_advance_S18 τ a1 a2 k18) (fun q => fX7_advance_L18 τ a1 a2 n18 (k18 + 1))
def fX7_advance (τ : CT) (a1 : Int32) (a2 : Int32) : (String ⊕ (Int32 × CT)) := (xbindE (fX7_checkYear a1) (fun _ => (xbindE (fX7_checkRange a2 (nI 0) (nI 1000000)) (fun _ => (xbindE (fX7_checkOpen τ (tn a1)) (fun _ => (fX7_advance_L18 τ a1 a2 (cN τ 0) 0)))))))
set_option maxHeartbeats 4000000 in
set_option maxRecDepth 100000 in
theorem mX7_advance (l : Launch) (lo : Nat) (D : va_G) (E : Nat → ClassId) (h : XW) (hlst : l.stackTraces = false) (Pr : Nat → Prop) (τ : CT) (ad : Nat → Nat → Nat) (fa : Nat → Nat → Option Nat) (hR : RC E Pr τ ad fa h) (hW : CW τ) (a1 : Int32) (a2 : Int32) : vx_Met l yX7_advance wsX7_advance ({ frames := 8, cells := 4, slots := 24, locals := 132 } : Room) (xP lo D E h [.ref (ad 0 0), .int a1, .int a2]) (xQ lo D (fun v h' => ∃ x, (fX7_advance τ a1 a2) = .inr x ∧ v = some (.int x.1) ∧ RC E Pr (x.2) ad fa h' ∧ cF Pr h h' ∧ CW x.2)) (xXp lo D h (fun En => (fX7_advance τ a1 a2) = .inl En)) 4 24 (xA lo) := by
  obtain ⟨G, hG⟩ : ∃ G, fX7_advance τ a1 a2 = G := ⟨_, rfl⟩
  rw [hG]
  unfold fX7_advance at hG
  refine vx_ofW (cc := cX7_advance) (maxL := 4) (ret := (some .int)) (by decide) rfl ?_
  intro p e s m args below meth c s₁ B hml hout hv
  obtain ⟨rfl, I⟩ := hv
  have hx := B.exec
  have hb := B.bytes
  have hr := B.returns
  have hts := atoms_spec (ws := wsX7_advance) B.pre
  have hown : s.vm.findClass RX7 = some m.cls := findClass_of_methodNamed B.named
  have hlocks := B.notSynchronized
  have hl := lv_entry ([.ref (ad 0 0), .int a1, .int a2] : List Value) (n := 4) (Nat.le_of_ble_eq_true rfl)
  rw [lg_entry_eq]
  generalize (lg_sl ([.ref (ad 0 0), .int a1, .int a2] : List Value) ++ List.replicate (4 - (lg_sl ([.ref (ad 0 0), .int a1, .int a2] : List Value)).length) Slot.unset).toArray = ls at hl ⊢
  have hl : lv_has ls 4 [(0, .ref (ad 0 0)), (1, .int a1), (2, .int a2)] := hl
  have hin7 : ∀ w ∈ u_ws RX7 TX7 14, w ∈ wsX7_advance := fun _ h => List.mem_cons_of_mem _ (List.mem_append_left _ (List.mem_append_left _ (List.mem_append_left _ (List.mem_append_left _ (List.mem_append_right _ (h))))))
  have hin3 : ∀ w ∈ u_ws RX3 TX3 5, w ∈ wsX7_advance := fun _ h => List.mem_cons_of_mem _ (List.mem_append_left _ (List.mem_append_left _ (List.mem_append_left _ (List.mem_append_right _ (h)))))
  have hin6 : ∀ w ∈ u_ws RX6 TX6 7, w ∈ wsX7_advance := fun _ h => List.mem_cons_of_mem _ (List.mem_append_left _ (List.mem_append_left _ (List.mem_append_right _ (h))))
  have hg61 : ∀ w ∈ (vx_atS RX7 61 "java/lang/IllegalStateException" xnames).filter goodWord, w ∈ wsX7_advance := fun _ h => List.mem_cons_of_mem _ (List.mem_append_left _ (List.mem_append_right _ (h)))
  have hg177 : ∀ w ∈ (vx_atS RX7 177 "java/lang/IllegalArgumentException" xnames).filter goodWord, w ∈ wsX7_advance := fun _ h => List.mem_cons_of_mem _ (List.mem_append_right _ (h))
  have hW0 := hW
  obtain ⟨w0, -⟩ := id hW
  have hS : va_S (xA lo) s.heap s.heap [] := va_S.rf
  have hT0 : XT lo s s.heap := I.2.2.2.2
  have hF : cF Pr h h := cF.rf
  refine lv_iload_n hx hb dX7_advance_0 rfl (lv_at hl 1 rfl) ?_
  refine xcsX (As := [.int a1]) (rest := []) ⟨hx, hb, hml, hown, hts⟩ (mX7_checkYear l lo D E h hlst a1) (va_cwS 1 hts gX7_advance_X7_checkYear rfl rfl rfl (by decide +kernel) ⟨Nat.le_of_ble_eq_true rfl, Nat.le_of_ble_eq_true rfl⟩) I hS rfl hl.1 rfl (Nat.le_of_ble_eq_true rfl) dX7_advance_1 ⟨Nat.le_of_ble_eq_true rfl, Nat.le_of_ble_eq_true rfl⟩ hout hlocks (fun En q => by rw [q] at hG; exact hG.symm) ⟨Nat.le_of_ble_eq_true rfl, Nat.le_of_ble_eq_true rfl⟩ (fun v9 hw9 H locs q9 I hS => ?_)
  obtain ⟨x1, e1, q1, q2⟩ := q9
  subst q1
  rw [q2] at I
  rw [e1] at hG
  have hG : (xbindE (fX7_checkRange a2 (nI 0) (nI 1000000)) (fun _ => (xbindE (fX7_checkOpen τ (tn a1)) (fun _ => (fX7_advance_L18 τ a1 a2 (cN τ 0) 0))))) = G := hG
  obtain ⟨e_a1, l_a1⟩ := okc_checkYear e1
  refine W.eq (g2 := F0 m 4 ls []) rfl ?_
  refine lv_iload_n hx hb dX7_advance_4 rfl (lv_at hl 2 rfl) ?_
  refine lv_iconst (v := (nI 0)) hx hb dX7_advance_5 (by decide) ?_
  refine lv_ldc (v := (nI 1000000)) hx hb hown (hts _ (List.mem_of_getElem? (i := 3) rfl)) dX7_advance_6 ?_
  refine xcsX (As := [.int a2, .int (nI 0), .int (nI 1000000)]) (rest := []) ⟨hx, hb, hml, hown, hts⟩ (mX7_checkRange l lo D E h hlst a2 (nI 0) (nI 1000000)) (va_cwS 3 hts gX7_advance_X7_checkRange rfl rfl rfl (by decide +kernel) ⟨Nat.le_of_ble_eq_true rfl, Nat.le_of_ble_eq_true rfl⟩) I hS rfl hl.1 rfl (Nat.le_of_ble_eq_true rfl) dX7_advance_8 ⟨Nat.le_of_ble_eq_true rfl, Nat.le_of_ble_eq_true rfl⟩ hout hlocks (fun En q => by rw [q] at hG; exact hG.symm) ⟨Nat.le_of_ble_eq_true rfl, Nat.le_of_ble_eq_true rfl⟩ (fun v9 hw9 H locs q9 I hS => ?_)
  obtain ⟨x8, e8, q1, q2⟩ := q9
  subst q1
  rw [q2] at I
  rw [e8] at hG
  have hG : (xbindE (fX7_checkOpen τ (tn a1)) (fun _ => (fX7_advance_L18 τ a1 a2 (cN τ 0) 0))) = G := hG
  obtain ⟨e_a2, l_a2⟩ := okc_checkRange (by omega) e8
  refine W.eq (g2 := F0 m 11 ls []) rfl ?_
  refine lv_aload_n hx hb dX7_advance_11 rfl (lv_at hl 0 rfl) ?_
  refine lv_iload_n hx hb dX7_advance_12 rfl (lv_at hl 1 rfl) ?_
  refine xtop (y := .int (nI (tn a1))) (congrArg Value.int e_a1) ?_
  refine xcvX (As := [.int (nI (tn a1))]) (rest := []) ⟨hx, hb, hml, hown, hts⟩ (mX7_checkOpen l lo D E h hlst Pr τ ad fa hR hW (tn a1) (by first | assumption | omega)) (cwV 1 hts gX7_advance_X7_checkOpen rfl rfl rfl (by decide +kernel) ⟨Nat.le_of_ble_eq_true rfl, Nat.le_of_ble_eq_true rfl⟩) I hS hR.f0 rfl rfl hl.1 rfl (Nat.le_of_ble_eq_true rfl) dX7_advance_13 ⟨Nat.le_of_ble_eq_true rfl, Nat.le_of_ble_eq_true rfl⟩ hout hlocks (fun En q => by rw [q] at hG; exact hG.symm) ⟨Nat.le_of_ble_eq_true rfl, Nat.le_of_ble_eq_true rfl⟩ (fun v9 hw9 H locs q9 I hS => ?_)
  obtain ⟨x13, e13, q1, q2⟩ := q9
  subst q1
  rw [q2] at I
  rw [e13] at hG
  have hG : (fX7_advance_L18 τ a1 a2 (cN τ 0) 0) = G := hG
  refine W.eq (g2 := F0 m 16 ls []) rfl ?_
  refine lv_iconst (v := (nI 0)) hx hb dX7_advance_16 (by decide) ?_
  refine lv_istore_n (lv' := [(3, .int (nI 0)), (0, .ref (ad 0 0)), (1, .int a1), (2, .int a2)]) hx hb dX7_advance_17 rfl hl (by decide) rfl (fun ls hl => ?_)
  have L18 : ∀ (n18 : Nat) (k18 : Nat), k18 + n18 = cN τ 0 → fX7_advance_L18 τ a1 a2 n18 k18 = G → ∀ ls : Array Slot, lv_has ls 4 [(0, .ref (ad 0 0)), (1, .int a1), (2, .int a2), (3, .int (nI k18))] → W p l e (headSpec wsX7_advance ({ frames := 8, cells := 4, slots := 24, locals := 132 } : Room)).room s m ([.ref (ad 0 0), .int a1, .int a2] : List Value).toArray below meth c H locs 3 18 (vx_MQ below (xQ lo D (fun v h' => ∃ x, G = .inr x ∧ v = some (.int x.1) ∧ RC E Pr (x.2) ad fa h' ∧ cF Pr h h' ∧ CW x.2)) (xXp lo D h (fun En => G = .inl En)) ([.ref (ad 0 0), .int a1, .int a2] : List Value).toArray s 4 24 (xA lo)) (F0 m 18 ls []) := by
    intro n18
    induction n18 with
    | zero =>
      intro k18 hkn hG ls hl
      have hkN : k18 = cN τ 0 := by omega
      have hG : (Sum.inr ((cI τ 31 (tn a1)), (cSI τ 31 (tn a1) (nI (tn a2))))) = G := hG
      refine lv_iload_n hx hb dX7_advance_18 rfl (lv_at hl 3 rfl) ?_
      refine lv_aload_n hx hb dX7_advance_19 rfl (lv_at hl 0 rfl) ?_
      refine xget (C := RX7) (T := TX7) (N := 14) 7 hx hb hts hin7 hown I hR.f0 rfl (by decide) (List.mem_of_getElem? (i := 4) rfl) rfl rfl dX7_advance_20 ?_
      refine lv_icmp_ge (tgt := 56) hx hb dX7_advance_23 (by decide) (fun _ => ?_) (fun q => absurd (nI_le (Nat.le_of_eq hkN.symm) (by omega)) q)
      refine lv_aload_n hx hb dX7_advance_56 rfl (lv_at hl 0 rfl) ?_
      refine xget (C := RX7) (T := TX7) (N := 14) 5 hx hb hts hin7 hown I hR.f0 rfl (by decide) (List.mem_of_getElem? (i := 7) rfl) rfl rfl dX7_advance_57 ?_
      refine lv_iload_n hx hb dX7_advance_60 rfl (lv_at hl 1 rfl) ?_
      refine xtop (y := .int (nI (tn a1))) (congrArg Value.int e_a1) ?_
      refine xaald (i := (tn a1)) (n := 20) 8 hx hb I rfl hR.f6 (by omega) (by decide) (hR.2.2.2.2.2.2.2.2.2 (tn a1) (show tn a1 < 20 by first | assumption | omega)) dX7_advance_61 ?_
      refine W.eq (g2 := F0 m 62 ls [.ref (ad 18 (tn a1))]) rfl ?_
      refine xget (C := RX6) (T := TX6) (N := 7) 0 hx hb hts hin6 hown I (hR.f18 (show tn a1 < 20 by first | assumption | omega)) rfl (by decide) (List.mem_of_getElem? (i := 8) rfl) rfl rfl dX7_advance_62 ?_
      refine lv_istore_n (lv' := [(3, .int (cI τ 31 (tn a1))), (0, .ref (ad 0 0)), (1, .int a1), (2, .int a2)]) hx hb dX7_advance_65 rfl hl (by decide) rfl (fun ls hl => ?_)
      refine lv_aload_n hx hb dX7_advance_66 rfl (lv_at hl 1 rfl) ?_
      refine xget (C := RX7) (T := TX7) (N := 14) 5 hx hb hts hin7 hown I hR.f0 rfl (by decide) (List.mem_of_getElem? (i := 7) rfl) rfl rfl dX7_advance_67 ?_
      refine lv_iload_n hx hb dX7_advance_70 rfl (lv_at hl 2 rfl) ?_
      refine xtop (y := .int (nI (tn a1))) (congrArg Value.int e_a1) ?_
      refine xaald (i := (tn a1)) (n := 20) 8 hx hb I rfl hR.f6 (by omega) (by decide) (hR.2.2.2.2.2.2.2.2.2 (tn a1) (show tn a1 < 20 by first | assumption | omega)) dX7_advance_71 ?_
      refine W.eq (g2 := F0 m 72 ls [.ref (ad 18 (tn a1))]) rfl ?_
      refine lv_iload_n hx hb dX7_advance_72 rfl (lv_at hl 3 rfl) ?_
      refine xtop (y := .int (nI (tn a2))) (congrArg Value.int e_a2) ?_
      refine xputC 0 hx hb hts hin6 tyX6 tyX6_ok nmX6 hown I hS hF (hR.f18 (show tn a1 < 20 by first | assumption | omega)) rfl (by decide) (List.mem_of_getElem? (i := 8) rfl) rfl rfl rfl rfl rfl (Nat.le_of_ble_eq_true rfl) (hR.p18_0 (show tn a1 < 20 by first | assumption | omega) (nI (tn a2))) (hR.2.2.1 18 (tn a1) (show tn a1 < 20 by first | assumption | omega)) dX7_advance_73 (fun H locs hw I hR hF hS => ?_)
      have hR : RC E Pr (cSI τ 31 (tn a1) (nI (tn a2))) ad fa hw := hR
      have hW : CW (cSI τ 31 (tn a1) (nI (tn a2))) := hW.sI (t := 31) (by decide) (tn a1) (nI (tn a2))
      refine lv_iload_n hx hb dX7_advance_76 rfl (lv_at hl 0 rfl) ?_
      exact xriX hx hb hr hlocks dX7_advance_77 I hS ⟨_, hG.symm, rfl, hR, hF, hW⟩ (Nat.le_of_ble_eq_true rfl) (Nat.le_of_ble_eq_true rfl)
    | succ n18 ih =>
      intro k18 hkn hG ls hl
      have hk : k18 < cN τ 0 := by omega
      have hG : lbind ((if (cM τ 1 k18 (tn a1)) = 0 then (Sum.inl ()) else (Sum.inr (Sum.inl "java/lang/IllegalStateException")))) (fun q => fX7_advance_L18 τ a1 a2 n18 (k18 + 1)) = G := hG
      refine lv_iload_n hx hb dX7_advance_18 rfl (lv_at hl 3 rfl) ?_
      refine lv_aload_n hx hb dX7_advance_19 rfl (lv_at hl 0 rfl) ?_
      refine xget (C := RX7) (T := TX7) (N := 14) 7 hx hb hts hin7 hown I hR.f0 rfl (by decide) (List.mem_of_getElem? (i := 4) rfl) rfl rfl dX7_advance_20 ?_
      refine lv_icmp_ge (tgt := 56) hx hb dX7_advance_23 (by decide) (fun q => absurd q (nI_ge hk (by omega))) (fun _ => ?_)
      refine lv_aload_n hx hb dX7_advance_26 rfl (lv_at hl 0 rfl) ?_
      refine xget (C := RX7) (T := TX7) (N := 14) 0 hx hb hts hin7 hown I hR.f0 rfl (by decide) (List.mem_of_getElem? (i := 5) rfl) rfl rfl dX7_advance_27 ?_
      refine lv_iload_n hx hb dX7_advance_30 rfl (lv_at hl 3 rfl) ?_
      refine xaald (i := k18) (n := 12) 3 hx hb I rfl hR.f1 (by omega) (by decide) (hR.2.2.2.2.1 k18 (show k18 < cN τ 0 by first | assumption | omega)) dX7_advance_31 ?_
      refine W.eq (g2 := F0 m 32 ls [.ref (ad 10 k18)]) rfl ?_
      refine xget (C := RX3) (T := TX3) (N := 5) 1 hx hb hts hin3 hown I (hR.f10 (show k18 < cN τ 0 by first | assumption | omega)) rfl (by decide) (List.mem_of_getElem? (i := 6) rfl) rfl rfl dX7_advance_32 ?_
      refine lv_iload_n hx hb dX7_advance_35 rfl (lv_at hl 1 rfl) ?_
      refine xtop (y := .int (nI (tn a1))) (congrArg Value.int e_a1) ?_
      refine xzald (i := (tn a1)) (n := 20) hx hb I (hR.f12 (show k18 < cN τ 0 by first | assumption | omega)) (by omega) (by decide) dX7_advance_36 ?_
      refine lv_if_eq (tgt := 50) hx hb dX7_advance_37 (by decide) (fun c_37 => ?_) (fun c_37 => ?_)
      · skip
        rw [if_pos c_37] at hG
        refine lv_iinc (v := (nI (k18 + 1))) (lv' := [(3, .int (nI (k18 + 1))), (0, .ref (ad 0 0)), (1, .int a1), (2, .int a2)]) hx hb dX7_advance_50 hl (k := 3) rfl (nI_succ k18).symm (by decide) rfl (fun ls hl => ?_)
        refine lv_goto (tgt := 18) hx hb dX7_advance_53 (by decide) ?_
        exact ih (k18 + 1) (by first | omega | (simp only [cSI_N, cSL_N, cSM_N, cSD_N]; omega)) hG ls (lv_sub hl [1, 2, 3, 0] rfl)
      · skip
        rw [if_neg c_37] at hG
        exact xthS (ik := 57) (is := 246) (ic := 61) (X := "java/lang/IllegalStateException") (text := "someone was released in the year") hx hb hlst hown hts (by decide) (List.mem_of_getElem? (i := 1) rfl) (List.mem_of_getElem? (i := 2) rfl) hg61 (by decide) hT0 I hS (hl.1.trans hml.symm) dX7_advance_40 dX7_advance_43 dX7_advance_44 dX7_advance_46 dX7_advance_49 hout (Nat.le_of_ble_eq_true rfl) (Nat.le_of_ble_eq_true rfl) (Nat.le_of_ble_eq_true rfl) (Nat.le_of_ble_eq_true rfl) hlocks hG.symm (Nat.le_of_ble_eq_true rfl) (Nat.le_of_ble_eq_true rfl)
  exact L18 (cN τ 0) 0 (by omega) hG ls (lv_sub hl [1, 2, 3, 0] rfl)

def fX7_further (τ : CT) (a1 : Int32) (a2 : Int32) : (String ⊕ (Int32 × CT)) := (xbindE (fX7_checkYear a1) (fun _ => (xbindE (fX7_checkRange a2 (nI 1) (nI 200)) (fun _ => (xbindE (fX7_checkOpen τ (tn a1)) (fun _ => (if ((cI τ 32 (tn a1)) + (nI (tn a2))) ≤ (nI 1000) then (Sum.inr (((cI τ 32 (tn a1)) + (nI (tn a2))), (cSI τ 32 (tn a1) ((cI τ 32 (tn a1)) + (nI (tn a2)))))) else (Sum.inl "java/lang/IllegalStateException"))))))))
set_option maxHeartbeats 4000000 in
set_option maxRecDepth 100000 in
theorem mX7_further (l : Launch) (lo : Nat) (D : va_G) (E : Nat → ClassId) (h : XW) (hlst : l.stackTraces = false) (Pr : Nat → Prop) (τ : CT) (ad : Nat → Nat → Nat) (fa : Nat → Nat → Option Nat) (hR : RC E Pr τ ad fa h) (hW : CW τ) (a1 : Int32) (a2 : Int32) : vx_Met l yX7_further wsX7_further ({ frames := 8, cells := 4, slots := 24, locals := 132 } : Room) (xP lo D E h [.ref (ad 0 0), .int a1, .int a2]) (xQ lo D (fun v h' => ∃ x, (fX7_further τ a1 a2) = .inr x ∧ v = some (.int x.1) ∧ RC E Pr (x.2) ad fa h' ∧ cF Pr h h' ∧ CW x.2)) (xXp lo D h (fun En => (fX7_further τ a1 a2) = .inl En)) 4 24 (xA lo) := by
  obtain ⟨G, hG⟩ : ∃ G, fX7_further τ a1 a2 = G := ⟨_, rfl⟩
  rw [hG]
  unfold fX7_further at hG
  refine vx_ofW (cc := cX7_further) (maxL := 4) (ret := (some .int)) (by decide) rfl ?_
  intro p e s m args below meth c s₁ B hml hout hv
  obtain ⟨rfl, I⟩ := hv
  have hx := B.exec
  have hb := B.bytes
  have hr := B.returns
  have hts := atoms_spec (ws := wsX7_further) B.pre
  have hown : s.vm.findClass RX7 = some m.cls := findClass_of_methodNamed B.named
  have hlocks := B.notSynchronized
  have hl := lv_entry ([.ref (ad 0 0), .int a1, .int a2] : List Value) (n := 4) (Nat.le_of_ble_eq_true rfl)
  rw [lg_entry_eq]
  generalize (lg_sl ([.ref (ad 0 0), .int a1, .int a2] : List Value) ++ List.replicate (4 - (lg_sl ([.ref (ad 0 0), .int a1, .int a2] : List Value)).length) Slot.unset).toArray = ls at hl ⊢
  have hl : lv_has ls 4 [(0, .ref (ad 0 0)), (1, .int a1), (2, .int a2)] := hl
  have hin7 : ∀ w ∈ u_ws RX7 TX7 14, w ∈ wsX7_further := fun _ h => List.mem_cons_of_mem _ (List.mem_append_left _ (List.mem_append_left _ (List.mem_append_left _ (List.mem_append_right _ (h)))))
  have hin6 : ∀ w ∈ u_ws RX6 TX6 7, w ∈ wsX7_further := fun _ h => List.mem_cons_of_mem _ (List.mem_append_left _ (List.mem_append_left _ (List.mem_append_right _ (h))))
  have hg61 : ∀ w ∈ (vx_atS RX7 61 "java/lang/IllegalStateException" xnames).filter goodWord, w ∈ wsX7_further := fun _ h => List.mem_cons_of_mem _ (List.mem_append_left _ (List.mem_append_right _ (h)))
  have hg177 : ∀ w ∈ (vx_atS RX7 177 "java/lang/IllegalArgumentException" xnames).filter goodWord, w ∈ wsX7_further := fun _ h => List.mem_cons_of_mem _ (List.mem_append_right _ (h))
  have hW0 := hW
  obtain ⟨w0, -⟩ := id hW
  have hS : va_S (xA lo) s.heap s.heap [] := va_S.rf
  have hT0 : XT lo s s.heap := I.2.2.2.2
  have hF : cF Pr h h := cF.rf
  refine lv_iload_n hx hb dX7_further_0 rfl (lv_at hl 1 rfl) ?_
  refine xcsX (As := [.int a1]) (rest := []) ⟨hx, hb, hml, hown, hts⟩ (mX7_checkYear l lo D E h hlst a1) (va_cwS 1 hts gX7_further_X7_checkYear rfl rfl rfl (by decide +kernel) ⟨Nat.le_of_ble_eq_true rfl, Nat.le_of_ble_eq_true rfl⟩) I hS rfl hl.1 rfl (Nat.le_of_ble_eq_true rfl) dX7_further_1 ⟨Nat.le_of_ble_eq_true rfl, Nat.le_of_ble_eq_true rfl⟩ hout hlocks (fun En q => by rw [q] at hG; exact hG.symm) ⟨Nat.le_of_ble_eq_true rfl, Nat.le_of_ble_eq_true rfl⟩ (fun v9 hw9 H locs q9 I hS => ?_)
  obtain ⟨x1, e1, q1, q2⟩ := q9
  subst q1
  rw [q2] at I
  rw [e1] at hG
  have hG : (xbindE (fX7_checkRange a2 (nI 1) (nI 200)) (fun _ => (xbindE (fX7_checkOpen τ (tn a1)) (fun _ => (if ((cI τ 32 (tn a1)) + (nI (tn a2))) ≤ (nI 1000) then (Sum.inr (((cI τ 32 (tn a1)) + (nI (tn a2))), (cSI τ 32 (tn a1) ((cI τ 32 (tn a1)) + (nI (tn a2)))))) else (Sum.inl "java/lang/IllegalStateException")))))) = G := hG
  obtain ⟨e_a1, l_a1⟩ := okc_checkYear e1
  refine W.eq (g2 := F0 m 4 ls []) rfl ?_
  refine lv_iload_n hx hb dX7_further_4 rfl (lv_at hl 2 rfl) ?_
  refine lv_iconst (v := (nI 1)) hx hb dX7_further_5 (by decide) ?_
  refine lv_sipush (v := (nI 200)) hx hb dX7_further_6 (by decide) ?_
  refine xcsX (As := [.int a2, .int (nI 1), .int (nI 200)]) (rest := []) ⟨hx, hb, hml, hown, hts⟩ (mX7_checkRange l lo D E h hlst a2 (nI 1) (nI 200)) (va_cwS 3 hts gX7_further_X7_checkRange rfl rfl rfl (by decide +kernel) ⟨Nat.le_of_ble_eq_true rfl, Nat.le_of_ble_eq_true rfl⟩) I hS rfl hl.1 rfl (Nat.le_of_ble_eq_true rfl) dX7_further_9 ⟨Nat.le_of_ble_eq_true rfl, Nat.le_of_ble_eq_true rfl⟩ hout hlocks (fun En q => by rw [q] at hG; exact hG.symm) ⟨Nat.le_of_ble_eq_true rfl, Nat.le_of_ble_eq_true rfl⟩ (fun v9 hw9 H locs q9 I hS => ?_)
  obtain ⟨x9, e9, q1, q2⟩ := q9
  subst q1
  rw [q2] at I
  rw [e9] at hG
  have hG : (xbindE (fX7_checkOpen τ (tn a1)) (fun _ => (if ((cI τ 32 (tn a1)) + (nI (tn a2))) ≤ (nI 1000) then (Sum.inr (((cI τ 32 (tn a1)) + (nI (tn a2))), (cSI τ 32 (tn a1) ((cI τ 32 (tn a1)) + (nI (tn a2)))))) else (Sum.inl "java/lang/IllegalStateException")))) = G := hG
  obtain ⟨e_a2, l_a2⟩ := okc_checkRange (by omega) e9
  refine W.eq (g2 := F0 m 12 ls []) rfl ?_
  refine lv_aload_n hx hb dX7_further_12 rfl (lv_at hl 0 rfl) ?_
  refine lv_iload_n hx hb dX7_further_13 rfl (lv_at hl 1 rfl) ?_
  refine xtop (y := .int (nI (tn a1))) (congrArg Value.int e_a1) ?_
  refine xcvX (As := [.int (nI (tn a1))]) (rest := []) ⟨hx, hb, hml, hown, hts⟩ (mX7_checkOpen l lo D E h hlst Pr τ ad fa hR hW (tn a1) (by first | assumption | omega)) (cwV 1 hts gX7_further_X7_checkOpen rfl rfl rfl (by decide +kernel) ⟨Nat.le_of_ble_eq_true rfl, Nat.le_of_ble_eq_true rfl⟩) I hS hR.f0 rfl rfl hl.1 rfl (Nat.le_of_ble_eq_true rfl) dX7_further_14 ⟨Nat.le_of_ble_eq_true rfl, Nat.le_of_ble_eq_true rfl⟩ hout hlocks (fun En q => by rw [q] at hG; exact hG.symm) ⟨Nat.le_of_ble_eq_true rfl, Nat.le_of_ble_eq_true rfl⟩ (fun v9 hw9 H locs q9 I hS => ?_)
  obtain ⟨x14, e14, q1, q2⟩ := q9
  subst q1
  rw [q2] at I
  rw [e14] at hG
  have hG : (if ((cI τ 32 (tn a1)) + (nI (tn a2))) ≤ (nI 1000) then (Sum.inr (((cI τ 32 (tn a1)) + (nI (tn a2))), (cSI τ 32 (tn a1) ((cI τ 32 (tn a1)) + (nI (tn a2)))))) else (Sum.inl "java/lang/IllegalStateException")) = G := hG
  refine W.eq (g2 := F0 m 17 ls []) rfl ?_
  refine lv_aload_n hx hb dX7_further_17 rfl (lv_at hl 0 rfl) ?_
  refine xget (C := RX7) (T := TX7) (N := 14) 5 hx hb hts hin7 hown I hR.f0 rfl (by decide) (List.mem_of_getElem? (i := 3) rfl) rfl rfl dX7_further_18 ?_
  refine lv_iload_n hx hb dX7_further_21 rfl (lv_at hl 1 rfl) ?_
  refine xtop (y := .int (nI (tn a1))) (congrArg Value.int e_a1) ?_
  refine xaald (i := (tn a1)) (n := 20) 8 hx hb I rfl hR.f6 (by omega) (by decide) (hR.2.2.2.2.2.2.2.2.2 (tn a1) (show tn a1 < 20 by first | assumption | omega)) dX7_further_22 ?_
  refine W.eq (g2 := F0 m 23 ls [.ref (ad 18 (tn a1))]) rfl ?_
  refine xget (C := RX6) (T := TX6) (N := 7) 1 hx hb hts hin6 hown I (hR.f18 (show tn a1 < 20 by first | assumption | omega)) rfl (by decide) (List.mem_of_getElem? (i := 4) rfl) rfl rfl dX7_further_23 ?_
  refine lv_iload_n hx hb dX7_further_26 rfl (lv_at hl 2 rfl) ?_
  refine xtop (y := .int (nI (tn a2))) (congrArg Value.int e_a2) ?_
  refine lv_iadd hx hb dX7_further_27 ?_
  refine lv_istore_n (lv' := [(3, .int ((cI τ 32 (tn a1)) + (nI (tn a2)))), (0, .ref (ad 0 0)), (1, .int a1), (2, .int a2)]) hx hb dX7_further_28 rfl hl (by decide) rfl (fun ls hl => ?_)
  refine lv_iload_n hx hb dX7_further_29 rfl (lv_at hl 0 rfl) ?_
  refine lv_sipush (v := (nI 1000)) hx hb dX7_further_30 (by decide) ?_
  refine lv_icmp_le (tgt := 46) hx hb dX7_further_33 (by decide) (fun c_33 => ?_) (fun c_33 => ?_)
  · skip
    rw [if_pos c_33] at hG
    refine lv_aload_n hx hb dX7_further_46 rfl (lv_at hl 1 rfl) ?_
    refine xget (C := RX7) (T := TX7) (N := 14) 5 hx hb hts hin7 hown I hR.f0 rfl (by decide) (List.mem_of_getElem? (i := 3) rfl) rfl rfl dX7_further_47 ?_
    refine lv_iload_n hx hb dX7_further_50 rfl (lv_at hl 2 rfl) ?_
    refine xtop (y := .int (nI (tn a1))) (congrArg Value.int e_a1) ?_
    refine xaald (i := (tn a1)) (n := 20) 8 hx hb I rfl hR.f6 (by omega) (by decide) (hR.2.2.2.2.2.2.2.2.2 (tn a1) (show tn a1 < 20 by first | assumption | omega)) dX7_further_51 ?_
    refine W.eq (g2 := F0 m 52 ls [.ref (ad 18 (tn a1))]) rfl ?_
    refine lv_iload_n hx hb dX7_further_52 rfl (lv_at hl 0 rfl) ?_
    refine xputC 1 hx hb hts hin6 tyX6 tyX6_ok nmX6 hown I hS hF (hR.f18 (show tn a1 < 20 by first | assumption | omega)) rfl (by decide) (List.mem_of_getElem? (i := 4) rfl) rfl rfl rfl rfl rfl (Nat.le_of_ble_eq_true rfl) (hR.p18_1 (show tn a1 < 20 by first | assumption | omega) ((cI τ 32 (tn a1)) + (nI (tn a2)))) (hR.2.2.1 18 (tn a1) (show tn a1 < 20 by first | assumption | omega)) dX7_further_53 (fun H locs hw I hR hF hS => ?_)
    have hR : RC E Pr (cSI τ 32 (tn a1) ((cI τ 32 (tn a1)) + (nI (tn a2)))) ad fa hw := hR
    have hW : CW (cSI τ 32 (tn a1) ((cI τ 32 (tn a1)) + (nI (tn a2)))) := hW.sI (t := 32) (by decide) (tn a1) ((cI τ 32 (tn a1)) + (nI (tn a2)))
    refine lv_iload_n hx hb dX7_further_56 rfl (lv_at hl 0 rfl) ?_
    exact xriX hx hb hr hlocks dX7_further_57 I hS ⟨_, hG.symm, rfl, hR, hF, hW⟩ (Nat.le_of_ble_eq_true rfl) (Nat.le_of_ble_eq_true rfl)
  · skip
    rw [if_neg c_33] at hG
    exact xthS (ik := 57) (is := 254) (ic := 61) (X := "java/lang/IllegalStateException") (text := "all further hundredths would be above 1000") hx hb hlst hown hts (by decide) (List.mem_of_getElem? (i := 1) rfl) (List.mem_of_getElem? (i := 2) rfl) hg61 (by decide) hT0 I hS (hl.1.trans hml.symm) dX7_further_36 dX7_further_39 dX7_further_40 dX7_further_42 dX7_further_45 hout (Nat.le_of_ble_eq_true rfl) (Nat.le_of_ble_eq_true rfl) (Nat.le_of_ble_eq_true rfl) (Nat.le_of_ble_eq_true rfl) hlocks hG.symm (Nat.le_of_ble_eq_true rfl) (Nat.le_of_ble_eq_true rfl)

def fX7_pay (τ : CT) (a1 : Int32) (a2 : Int32) : (String ⊕ (Int64 × CT)) := (xbindE (fX7_memberOf τ a1) (fun x2 => (xbindE (fX7_checkRange a2 (nI 1) (nI 1000000000)) (fun _ => (if (0 : Int64) < (fX7_owedBy (cSL τ 20 x2 ((cL τ 20 x2) + (nI (tn a2)).toInt64)) x2) then (Sum.inr ((fX7_owedBy (cSL τ 20 x2 ((cL τ 20 x2) + (nI (tn a2)).toInt64)) x2), (cSL τ 20 x2 ((cL τ 20 x2) + (nI (tn a2)).toInt64)))) else (Sum.inr ((fX7_owedBy (cSL τ 20 x2 ((cL τ 20 x2) + (nI (tn a2)).toInt64)) x2), (cSI (cSL τ 20 x2 ((cL τ 20 x2) + (nI (tn a2)).toInt64)) 20 x2 (-1)))))))))
set_option maxHeartbeats 4000000 in
set_option maxRecDepth 100000 in
theorem mX7_pay (l : Launch) (lo : Nat) (D : va_G) (E : Nat → ClassId) (h : XW) (hlst : l.stackTraces = false) (Pr : Nat → Prop) (τ : CT) (ad : Nat → Nat → Nat) (fa : Nat → Nat → Option Nat) (hR : RC E Pr τ ad fa h) (hW : CW τ) (a1 : Int32) (a2 : Int32) : vx_Met l yX7_pay wsX7_pay ({ frames := 7, cells := 2, slots := 12, locals := 145 } : Room) (xP lo D E h [.ref (ad 0 0), .int a1, .int a2]) (xQ lo D (fun v h' => ∃ x, (fX7_pay τ a1 a2) = .inr x ∧ v = some (.long x.1) ∧ RC E Pr (x.2) ad fa h' ∧ cF Pr h h' ∧ CW x.2)) (xXp lo D h (fun En => (fX7_pay τ a1 a2) = .inl En)) 2 12 (xA lo) := by
  obtain ⟨G, hG⟩ : ∃ G, fX7_pay τ a1 a2 = G := ⟨_, rfl⟩
  rw [hG]
  unfold fX7_pay at hG
  refine vx_ofW (cc := cX7_pay) (maxL := 6) (ret := (some .long)) (by decide) rfl ?_
  intro p e s m args below meth c s₁ B hml hout hv
  obtain ⟨rfl, I⟩ := hv
  have hx := B.exec
  have hb := B.bytes
  have hr := B.returns
  have hts := atoms_spec (ws := wsX7_pay) B.pre
  have hown : s.vm.findClass RX7 = some m.cls := findClass_of_methodNamed B.named
  have hlocks := B.notSynchronized
  have hl := lv_entry ([.ref (ad 0 0), .int a1, .int a2] : List Value) (n := 6) (Nat.le_of_ble_eq_true rfl)
  rw [lg_entry_eq]
  generalize (lg_sl ([.ref (ad 0 0), .int a1, .int a2] : List Value) ++ List.replicate (6 - (lg_sl ([.ref (ad 0 0), .int a1, .int a2] : List Value)).length) Slot.unset).toArray = ls at hl ⊢
  have hl : lv_has ls 6 [(0, .ref (ad 0 0)), (1, .int a1), (2, .int a2)] := hl
  have hin7 : ∀ w ∈ u_ws RX7 TX7 14, w ∈ wsX7_pay := fun _ h => List.mem_cons_of_mem _ (List.mem_append_left _ (List.mem_append_left _ (List.mem_append_left _ (List.mem_append_left _ (List.mem_append_left _ (List.mem_append_right _ (h)))))))
  have hin3 : ∀ w ∈ u_ws RX3 TX3 5, w ∈ wsX7_pay := fun _ h => List.mem_cons_of_mem _ (List.mem_append_left _ (List.mem_append_left _ (List.mem_append_left _ (List.mem_append_left _ (List.mem_append_left _ (List.mem_append_left _ (List.mem_append_right _ (h))))))))
  have hin5 : ∀ w ∈ u_ws RX5 TX5 4, w ∈ wsX7_pay := fun _ h => List.mem_cons_of_mem _ (List.mem_append_left _ (List.mem_append_left _ (List.mem_append_right _ (h))))
  have hin1 : ∀ w ∈ u_ws RX1 TX1 3, w ∈ wsX7_pay := fun _ h => List.mem_cons_of_mem _ (List.mem_append_left _ (List.mem_append_left _ (List.mem_append_left _ (List.mem_append_right _ (h)))))
  have hin6 : ∀ w ∈ u_ws RX6 TX6 7, w ∈ wsX7_pay := fun _ h => List.mem_cons_of_mem _ (List.mem_append_left _ (List.mem_append_left _ (List.mem_append_left _ (List.mem_append_left _ (List.mem_append_right _ (h))))))
  have hg334 : ∀ w ∈ (vx_atS RX7 334 "java/lang/IndexOutOfBoundsException" xnames).filter goodWord, w ∈ wsX7_pay := fun _ h => List.mem_cons_of_mem _ (List.mem_append_left _ (List.mem_append_right _ (h)))
  have hg177 : ∀ w ∈ (vx_atS RX7 177 "java/lang/IllegalArgumentException" xnames).filter goodWord, w ∈ wsX7_pay := fun _ h => List.mem_cons_of_mem _ (List.mem_append_right _ (h))
  have hW0 := hW
  obtain ⟨w0, -⟩ := id hW
  have hS : va_S (xA lo) s.heap s.heap [] := va_S.rf
  have hT0 : XT lo s s.heap := I.2.2.2.2
  have hF : cF Pr h h := cF.rf
  refine lv_aload_n hx hb dX7_pay_0 rfl (lv_at hl 0 rfl) ?_
  refine lv_iload_n hx hb dX7_pay_1 rfl (lv_at hl 1 rfl) ?_
  refine xcvX (As := [.int a1]) (rest := []) ⟨hx, hb, hml, hown, hts⟩ (mX7_memberOf l lo D E h hlst Pr τ ad fa hR hW a1) (cwV 1 hts gX7_pay_X7_memberOf rfl rfl rfl (by decide +kernel) ⟨Nat.le_of_ble_eq_true rfl, Nat.le_of_ble_eq_true rfl⟩) I hS hR.f0 rfl rfl hl.1 rfl (Nat.le_of_ble_eq_true rfl) dX7_pay_2 ⟨Nat.le_of_ble_eq_true rfl, Nat.le_of_ble_eq_true rfl⟩ hout hlocks (fun En q => by rw [q] at hG; exact hG.symm) ⟨Nat.le_of_ble_eq_true rfl, Nat.le_of_ble_eq_true rfl⟩ (fun v9 hw9 H locs q9 I hS => ?_)
  obtain ⟨x2, e2, q1, q2⟩ := q9
  subst q1
  rw [q2] at I
  rw [e2] at hG
  have hG : (xbindE (fX7_checkRange a2 (nI 1) (nI 1000000000)) (fun _ => (if (0 : Int64) < (fX7_owedBy (cSL τ 20 x2 ((cL τ 20 x2) + (nI (tn a2)).toInt64)) x2) then (Sum.inr ((fX7_owedBy (cSL τ 20 x2 ((cL τ 20 x2) + (nI (tn a2)).toInt64)) x2), (cSL τ 20 x2 ((cL τ 20 x2) + (nI (tn a2)).toInt64)))) else (Sum.inr ((fX7_owedBy (cSL τ 20 x2 ((cL τ 20 x2) + (nI (tn a2)).toInt64)) x2), (cSI (cSL τ 20 x2 ((cL τ 20 x2) + (nI (tn a2)).toInt64)) 20 x2 (-1))))))) = G := hG
  obtain ⟨l_x2, e_x2⟩ := okc_memberOf hW0 e2
  refine W.eq (g2 := F0 m 5 ls [.ref (ad 10 x2)]) rfl ?_
  refine lv_astore_n (lv' := [(3, .ref (ad 10 x2)), (0, .ref (ad 0 0)), (1, .int a1), (2, .int a2)]) hx hb dX7_pay_5 rfl hl (by decide) rfl (fun ls hl => ?_)
  refine lv_iload_n hx hb dX7_pay_6 rfl (lv_at hl 3 rfl) ?_
  refine lv_iconst (v := (nI 1)) hx hb dX7_pay_7 (by decide) ?_
  refine lv_ldcw (v := (nI 1000000000)) hx hb hown (hts _ (List.mem_of_getElem? (i := 1) rfl)) dX7_pay_8 ?_
  refine xcsX (As := [.int a2, .int (nI 1), .int (nI 1000000000)]) (rest := []) ⟨hx, hb, hml, hown, hts⟩ (mX7_checkRange l lo D E h hlst a2 (nI 1) (nI 1000000000)) (va_cwS 3 hts gX7_pay_X7_checkRange rfl rfl rfl (by decide +kernel) ⟨Nat.le_of_ble_eq_true rfl, Nat.le_of_ble_eq_true rfl⟩) I hS rfl hl.1 rfl (Nat.le_of_ble_eq_true rfl) dX7_pay_11 ⟨Nat.le_of_ble_eq_true rfl, Nat.le_of_ble_eq_true rfl⟩ hout hlocks (fun En q => by rw [q] at hG; exact hG.symm) ⟨Nat.le_of_ble_eq_true rfl, Nat.le_of_ble_eq_true rfl⟩ (fun v9 hw9 H locs q9 I hS => ?_)
  obtain ⟨x11, e11, q1, q2⟩ := q9
  subst q1
  rw [q2] at I
  rw [e11] at hG
  have hG : (if (0 : Int64) < (fX7_owedBy (cSL τ 20 x2 ((cL τ 20 x2) + (nI (tn a2)).toInt64)) x2) then (Sum.inr ((fX7_owedBy (cSL τ 20 x2 ((cL τ 20 x2) + (nI (tn a2)).toInt64)) x2), (cSL τ 20 x2 ((cL τ 20 x2) + (nI (tn a2)).toInt64)))) else (Sum.inr ((fX7_owedBy (cSL τ 20 x2 ((cL τ 20 x2) + (nI (tn a2)).toInt64)) x2), (cSI (cSL τ 20 x2 ((cL τ 20 x2) + (nI (tn a2)).toInt64)) 20 x2 (-1))))) = G := hG
  obtain ⟨e_a2, l_a2⟩ := okc_checkRange (by omega) e11
  refine W.eq (g2 := F0 m 14 ls []) rfl ?_
  refine lv_aload_n hx hb dX7_pay_14 rfl (lv_at hl 0 rfl) ?_
  refine lv_dup hx hb dX7_pay_15 rfl ?_
  refine xget (C := RX3) (T := TX3) (N := 5) 3 hx hb hts hin3 hown I (hR.f10 (show x2 < cN τ 0 by first | assumption | omega)) rfl (by decide) (List.mem_of_getElem? (i := 2) rfl) rfl rfl dX7_pay_16 ?_
  refine lv_iload_n hx hb dX7_pay_19 rfl (lv_at hl 3 rfl) ?_
  refine xtop (y := .int (nI (tn a2))) (congrArg Value.int e_a2) ?_
  refine lv_i2l (v := (nI (tn a2)).toInt64) hx hb dX7_pay_20 rfl ?_
  refine lv_ladd hx hb dX7_pay_21 ?_
  refine xputC 3 hx hb hts hin3 tyX3 tyX3_ok nmX3 hown I hS hF (hR.f10 (show x2 < cN τ 0 by first | assumption | omega)) rfl (by decide) (List.mem_of_getElem? (i := 2) rfl) rfl rfl rfl rfl rfl (Nat.le_of_ble_eq_true rfl) (hR.p10_3 (show x2 < cN τ 0 by first | assumption | omega) ((cL τ 20 x2) + (nI (tn a2)).toInt64)) (hR.2.2.1 10 x2 (show x2 < cN τ 0 by first | assumption | omega)) dX7_pay_22 (fun H locs hw I hR hF hS => ?_)
  have hR : RC E Pr (cSL τ 20 x2 ((cL τ 20 x2) + (nI (tn a2)).toInt64)) ad fa hw := hR
  have hW : CW (cSL τ 20 x2 ((cL τ 20 x2) + (nI (tn a2)).toInt64)) := hW.sL 20 x2 ((cL τ 20 x2) + (nI (tn a2)).toInt64)
  refine lv_aload_n hx hb dX7_pay_25 rfl (lv_at hl 1 rfl) ?_
  refine lv_aload_n hx hb dX7_pay_26 rfl (lv_at hl 0 rfl) ?_
  refine xcvR (As := [.ref (ad 10 x2)]) (rest := []) (v := some (.long (fX7_owedBy (cSL τ 20 x2 ((cL τ 20 x2) + (nI (tn a2)).toInt64)) x2))) ⟨hx, hb, hml, hown, hts⟩ (mX7_owedBy l lo D E hw Pr (cSL τ 20 x2 ((cL τ 20 x2) + (nI (tn a2)).toInt64)) ad fa hR hW x2 (show x2 < cN τ 0 by first | assumption | omega)) (cwV 1 hts gX7_pay_X7_owedBy rfl rfl rfl (by decide +kernel) ⟨Nat.le_of_ble_eq_true rfl, Nat.le_of_ble_eq_true rfl⟩) I hR.f0 rfl rfl hl.1 rfl (Nat.le_of_ble_eq_true rfl) dX7_pay_27 ⟨Nat.le_of_ble_eq_true rfl, Nat.le_of_ble_eq_true rfl⟩ ?_
  refine W.eq (g2 := F0 m 30 ls [.long (fX7_owedBy (cSL τ 20 x2 ((cL τ 20 x2) + (nI (tn a2)).toInt64)) x2)]) rfl ?_
  refine lv_lstore (lv' := [(4, .long (fX7_owedBy (cSL τ 20 x2 ((cL τ 20 x2) + (nI (tn a2)).toInt64)) x2)), (3, .ref (ad 10 x2)), (0, .ref (ad 0 0)), (1, .int a1), (2, .int a2)]) hx hb dX7_pay_30 hl (by decide) rfl (fun ls hl => ?_)
  refine lv_lload hx hb dX7_pay_32 (lv_at hl 0 rfl) ?_
  refine lv_lconst (v := (0 : Int64)) hx hb dX7_pay_34 rfl ?_
  refine xl_gt (tgt := 44) hx hb dX7_pay_35 dX7_pay_36 (by decide) (fun c_35 => ?_) (fun c_35 => ?_)
  · skip
    rw [if_pos c_35] at hG
    refine lv_lload hx hb dX7_pay_44 (lv_at hl 0 rfl) ?_
    exact xrlX hx hb hr hlocks dX7_pay_46 I hS ⟨_, hG.symm, rfl, hR, hF, hW⟩ (Nat.le_of_ble_eq_true rfl) (Nat.le_of_ble_eq_true rfl)
  · skip
    rw [if_neg c_35] at hG
    refine lv_aload_n hx hb dX7_pay_39 rfl (lv_at hl 1 rfl) ?_
    refine lv_iconst (v := (-1)) hx hb dX7_pay_40 (by decide) ?_
    refine xputC 4 hx hb hts hin3 tyX3 tyX3_ok nmX3 hown I hS hF (hR.f10 (show x2 < cN τ 0 by first | assumption | omega)) rfl (by decide) (List.mem_of_getElem? (i := 3) rfl) rfl rfl rfl rfl rfl (Nat.le_of_ble_eq_true rfl) (hR.p10_4 (show x2 < cN τ 0 by first | assumption | omega) (-1)) (hR.2.2.1 10 x2 (show x2 < cN τ 0 by first | assumption | omega)) dX7_pay_41 (fun H locs hw I hR hF hS => ?_)
    have hR : RC E Pr (cSI (cSL τ 20 x2 ((cL τ 20 x2) + (nI (tn a2)).toInt64)) 20 x2 (-1)) ad fa hw := hR
    have hW : CW (cSI (cSL τ 20 x2 ((cL τ 20 x2) + (nI (tn a2)).toInt64)) 20 x2 (-1)) := hW.sI (t := 20) (by decide) x2 (-1)
    refine lv_lload hx hb dX7_pay_44 (lv_at hl 0 rfl) ?_
    exact xrlX hx hb hr hlocks dX7_pay_46 I hS ⟨_, hG.symm, rfl, hR, hF, hW⟩ (Nat.le_of_ble_eq_true rfl) (Nat.le_of_ble_eq_true rfl)

def fX7_stop (τ : CT) (a1 : Int32) (a2 : Int32) : (String ⊕ (Int32 × CT)) := (xbindE (fX7_memberOf τ a1) (fun x2 => (xbindE (fX7_checkRange a2 (nI 0) (nI (cN τ 5))) (fun _ => (if (0 : Int64) < (fX7_owedBy τ x2) then (Sum.inr ((cI τ 20 x2), (cSI τ 20 x2 (nI (tn a2))))) else (Sum.inl "java/lang/IllegalStateException"))))))
set_option maxHeartbeats 4000000 in
set_option maxRecDepth 100000 in
theorem mX7_stop (l : Launch) (lo : Nat) (D : va_G) (E : Nat → ClassId) (h : XW) (hlst : l.stackTraces = false) (Pr : Nat → Prop) (τ : CT) (ad : Nat → Nat → Nat) (fa : Nat → Nat → Option Nat) (hR : RC E Pr τ ad fa h) (hW : CW τ) (a1 : Int32) (a2 : Int32) : vx_Met l yX7_stop wsX7_stop ({ frames := 7, cells := 3, slots := 18, locals := 145 } : Room) (xP lo D E h [.ref (ad 0 0), .int a1, .int a2]) (xQ lo D (fun v h' => ∃ x, (fX7_stop τ a1 a2) = .inr x ∧ v = some (.int x.1) ∧ RC E Pr (x.2) ad fa h' ∧ cF Pr h h' ∧ CW x.2)) (xXp lo D h (fun En => (fX7_stop τ a1 a2) = .inl En)) 3 18 (xA lo) := by
  obtain ⟨G, hG⟩ : ∃ G, fX7_stop τ a1 a2 = G := ⟨_, rfl⟩
  rw [hG]
  unfold fX7_stop at hG
  refine vx_ofW (cc := cX7_stop) (maxL := 5) (ret := (some .int)) (by decide) rfl ?_
  intro p e s m args below meth c s₁ B hml hout hv
  obtain ⟨rfl, I⟩ := hv
  have hx := B.exec
  have hb := B.bytes
  have hr := B.returns
  have hts := atoms_spec (ws := wsX7_stop) B.pre
  have hown : s.vm.findClass RX7 = some m.cls := findClass_of_methodNamed B.named
  have hlocks := B.notSynchronized
  have hl := lv_entry ([.ref (ad 0 0), .int a1, .int a2] : List Value) (n := 5) (Nat.le_of_ble_eq_true rfl)
  rw [lg_entry_eq]
  generalize (lg_sl ([.ref (ad 0 0), .int a1, .int a2] : List Value) ++ List.replicate (5 - (lg_sl ([.ref (ad 0 0), .int a1, .int a2] : List Value)).length) Slot.unset).toArray = ls at hl ⊢
  have hl : lv_has ls 5 [(0, .ref (ad 0 0)), (1, .int a1), (2, .int a2)] := hl
  have hin7 : ∀ w ∈ u_ws RX7 TX7 14, w ∈ wsX7_stop := fun _ h => List.mem_cons_of_mem _ (List.mem_append_left _ (List.mem_append_left _ (List.mem_append_left _ (List.mem_append_left _ (List.mem_append_left _ (List.mem_append_left _ (List.mem_append_left _ (List.mem_append_right _ (h)))))))))
  have hin3 : ∀ w ∈ u_ws RX3 TX3 5, w ∈ wsX7_stop := fun _ h => List.mem_cons_of_mem _ (List.mem_append_left _ (List.mem_append_left _ (List.mem_append_left _ (List.mem_append_left _ (List.mem_append_left _ (List.mem_append_left _ (List.mem_append_right _ (h))))))))
  have hin5 : ∀ w ∈ u_ws RX5 TX5 4, w ∈ wsX7_stop := fun _ h => List.mem_cons_of_mem _ (List.mem_append_left _ (List.mem_append_left _ (List.mem_append_left _ (List.mem_append_right _ (h)))))
  have hin1 : ∀ w ∈ u_ws RX1 TX1 3, w ∈ wsX7_stop := fun _ h => List.mem_cons_of_mem _ (List.mem_append_left _ (List.mem_append_left _ (List.mem_append_left _ (List.mem_append_left _ (List.mem_append_right _ (h))))))
  have hin6 : ∀ w ∈ u_ws RX6 TX6 7, w ∈ wsX7_stop := fun _ h => List.mem_cons_of_mem _ (List.mem_append_left _ (List.mem_append_left _ (List.mem_append_left _ (List.mem_append_left _ (List.mem_append_left _ (List.mem_append_right _ (h)))))))
  have hg61 : ∀ w ∈ (vx_atS RX7 61 "java/lang/IllegalStateException" xnames).filter goodWord, w ∈ wsX7_stop := fun _ h => List.mem_cons_of_mem _ (List.mem_append_left _ (List.mem_append_left _ (List.mem_append_right _ (h))))
  have hg334 : ∀ w ∈ (vx_atS RX7 334 "java/lang/IndexOutOfBoundsException" xnames).filter goodWord, w ∈ wsX7_stop := fun _ h => List.mem_cons_of_mem _ (List.mem_append_left _ (List.mem_append_right _ (h)))
  have hg177 : ∀ w ∈ (vx_atS RX7 177 "java/lang/IllegalArgumentException" xnames).filter goodWord, w ∈ wsX7_stop := fun _ h => List.mem_cons_of_mem _ (List.mem_append_right _ (h))
  have hW0 := hW
  obtain ⟨w0, -⟩ := id hW
  have hS : va_S (xA lo) s.heap s.heap [] := va_S.rf
  have hT0 : XT lo s s.heap := I.2.2.2.2
  have hF : cF Pr h h := cF.rf
  refine lv_aload_n hx hb dX7_stop_0 rfl (lv_at hl 0 rfl) ?_
  refine lv_iload_n hx hb dX7_stop_1 rfl (lv_at hl 1 rfl) ?_
  refine xcvX (As := [.int a1]) (rest := []) ⟨hx, hb, hml, hown, hts⟩ (mX7_memberOf l lo D E h hlst Pr τ ad fa hR hW a1) (cwV 1 hts gX7_stop_X7_memberOf rfl rfl rfl (by decide +kernel) ⟨Nat.le_of_ble_eq_true rfl, Nat.le_of_ble_eq_true rfl⟩) I hS hR.f0 rfl rfl hl.1 rfl (Nat.le_of_ble_eq_true rfl) dX7_stop_2 ⟨Nat.le_of_ble_eq_true rfl, Nat.le_of_ble_eq_true rfl⟩ hout hlocks (fun En q => by rw [q] at hG; exact hG.symm) ⟨Nat.le_of_ble_eq_true rfl, Nat.le_of_ble_eq_true rfl⟩ (fun v9 hw9 H locs q9 I hS => ?_)
  obtain ⟨x2, e2, q1, q2⟩ := q9
  subst q1
  rw [q2] at I
  rw [e2] at hG
  have hG : (xbindE (fX7_checkRange a2 (nI 0) (nI (cN τ 5))) (fun _ => (if (0 : Int64) < (fX7_owedBy τ x2) then (Sum.inr ((cI τ 20 x2), (cSI τ 20 x2 (nI (tn a2))))) else (Sum.inl "java/lang/IllegalStateException")))) = G := hG
  obtain ⟨l_x2, e_x2⟩ := okc_memberOf hW0 e2
  refine W.eq (g2 := F0 m 5 ls [.ref (ad 10 x2)]) rfl ?_
  refine lv_astore_n (lv' := [(3, .ref (ad 10 x2)), (0, .ref (ad 0 0)), (1, .int a1), (2, .int a2)]) hx hb dX7_stop_5 rfl hl (by decide) rfl (fun ls hl => ?_)
  refine lv_iload_n hx hb dX7_stop_6 rfl (lv_at hl 3 rfl) ?_
  refine lv_iconst (v := (nI 0)) hx hb dX7_stop_7 (by decide) ?_
  refine lv_aload_n hx hb dX7_stop_8 rfl (lv_at hl 1 rfl) ?_
  refine xget (C := RX7) (T := TX7) (N := 14) 12 hx hb hts hin7 hown I hR.f0 rfl (by decide) (List.mem_of_getElem? (i := 3) rfl) rfl rfl dX7_stop_9 ?_
  refine xcsX (As := [.int a2, .int (nI 0), .int (nI (cN τ 5))]) (rest := []) ⟨hx, hb, hml, hown, hts⟩ (mX7_checkRange l lo D E h hlst a2 (nI 0) (nI (cN τ 5))) (va_cwS 3 hts gX7_stop_X7_checkRange rfl rfl rfl (by decide +kernel) ⟨Nat.le_of_ble_eq_true rfl, Nat.le_of_ble_eq_true rfl⟩) I hS rfl hl.1 rfl (Nat.le_of_ble_eq_true rfl) dX7_stop_12 ⟨Nat.le_of_ble_eq_true rfl, Nat.le_of_ble_eq_true rfl⟩ hout hlocks (fun En q => by rw [q] at hG; exact hG.symm) ⟨Nat.le_of_ble_eq_true rfl, Nat.le_of_ble_eq_true rfl⟩ (fun v9 hw9 H locs q9 I hS => ?_)
  obtain ⟨x12, e12, q1, q2⟩ := q9
  subst q1
  rw [q2] at I
  rw [e12] at hG
  have hG : (if (0 : Int64) < (fX7_owedBy τ x2) then (Sum.inr ((cI τ 20 x2), (cSI τ 20 x2 (nI (tn a2))))) else (Sum.inl "java/lang/IllegalStateException")) = G := hG
  obtain ⟨e_a2, l_a2⟩ := okc_checkRange (by omega) e12
  refine W.eq (g2 := F0 m 15 ls []) rfl ?_
  refine lv_aload_n hx hb dX7_stop_15 rfl (lv_at hl 1 rfl) ?_
  refine lv_aload_n hx hb dX7_stop_16 rfl (lv_at hl 0 rfl) ?_
  refine xcvR (As := [.ref (ad 10 x2)]) (rest := []) (v := some (.long (fX7_owedBy τ x2))) ⟨hx, hb, hml, hown, hts⟩ (mX7_owedBy l lo D E h Pr τ ad fa hR hW x2 (show x2 < cN τ 0 by first | assumption | omega)) (cwV 1 hts gX7_stop_X7_owedBy rfl rfl rfl (by decide +kernel) ⟨Nat.le_of_ble_eq_true rfl, Nat.le_of_ble_eq_true rfl⟩) I hR.f0 rfl rfl hl.1 rfl (Nat.le_of_ble_eq_true rfl) dX7_stop_17 ⟨Nat.le_of_ble_eq_true rfl, Nat.le_of_ble_eq_true rfl⟩ ?_
  refine W.eq (g2 := F0 m 20 ls [.long (fX7_owedBy τ x2)]) rfl ?_
  refine lv_lconst (v := (0 : Int64)) hx hb dX7_stop_20 rfl ?_
  refine xl_gt (tgt := 36) hx hb dX7_stop_21 dX7_stop_22 (by decide) (fun c_21 => ?_) (fun c_21 => ?_)
  · skip
    rw [if_pos c_21] at hG
    refine lv_aload_n hx hb dX7_stop_36 rfl (lv_at hl 0 rfl) ?_
    refine xget (C := RX3) (T := TX3) (N := 5) 4 hx hb hts hin3 hown I (hR.f10 (show x2 < cN τ 0 by first | assumption | omega)) rfl (by decide) (List.mem_of_getElem? (i := 4) rfl) rfl rfl dX7_stop_37 ?_
    refine lv_istore (lv' := [(4, .int (cI τ 20 x2)), (3, .ref (ad 10 x2)), (0, .ref (ad 0 0)), (1, .int a1), (2, .int a2)]) hx hb dX7_stop_40 hl (by decide) rfl (fun ls hl => ?_)
    refine lv_aload_n hx hb dX7_stop_42 rfl (lv_at hl 1 rfl) ?_
    refine lv_iload_n hx hb dX7_stop_43 rfl (lv_at hl 4 rfl) ?_
    refine xtop (y := .int (nI (tn a2))) (congrArg Value.int e_a2) ?_
    refine xputC 4 hx hb hts hin3 tyX3 tyX3_ok nmX3 hown I hS hF (hR.f10 (show x2 < cN τ 0 by first | assumption | omega)) rfl (by decide) (List.mem_of_getElem? (i := 4) rfl) rfl rfl rfl rfl rfl (Nat.le_of_ble_eq_true rfl) (hR.p10_4 (show x2 < cN τ 0 by first | assumption | omega) (nI (tn a2))) (hR.2.2.1 10 x2 (show x2 < cN τ 0 by first | assumption | omega)) dX7_stop_44 (fun H locs hw I hR hF hS => ?_)
    have hR : RC E Pr (cSI τ 20 x2 (nI (tn a2))) ad fa hw := hR
    have hW : CW (cSI τ 20 x2 (nI (tn a2))) := hW.sI (t := 20) (by decide) x2 (nI (tn a2))
    refine lv_iload hx hb dX7_stop_47 (lv_at hl 0 rfl) ?_
    exact xriX hx hb hr hlocks dX7_stop_49 I hS ⟨_, hG.symm, rfl, hR, hF, hW⟩ (Nat.le_of_ble_eq_true rfl) (Nat.le_of_ble_eq_true rfl)
  · skip
    rw [if_neg c_21] at hG
    exact xthSW (ik := 57) (is := 287) (ic := 61) (X := "java/lang/IllegalStateException") (text := "the member owes nothing") hx hb hlst hown hts (by decide) (List.mem_of_getElem? (i := 1) rfl) (List.mem_of_getElem? (i := 2) rfl) hg61 (by decide) hT0 I hS (hl.1.trans hml.symm) dX7_stop_25 dX7_stop_28 dX7_stop_29 dX7_stop_32 dX7_stop_35 hout (Nat.le_of_ble_eq_true rfl) (Nat.le_of_ble_eq_true rfl) (Nat.le_of_ble_eq_true rfl) (Nat.le_of_ble_eq_true rfl) hlocks hG.symm (Nat.le_of_ble_eq_true rfl) (Nat.le_of_ble_eq_true rfl)

def fX4_tell (τ : CT) (k1 : Nat) (y1 : Nat) (x1 : Int32) (x2 : Int32) : CT := (cSI (cSI τ 38 (k1 * 20 + y1) x1) 39 (k1 * 20 + y1) x2)
set_option maxHeartbeats 4000000 in
set_option maxRecDepth 100000 in
theorem mX4_tell (l : Launch) (lo : Nat) (D : va_G) (E : Nat → ClassId) (h : XW) (Pr : Nat → Prop) (τ : CT) (ad : Nat → Nat → Nat) (fa : Nat → Nat → Option Nat) (hR : RC E Pr τ ad fa h) (hW : CW τ) (k1 : Nat) (y1 : Nat) (x1 : Int32) (x2 : Int32) (hk1 : k1 < 4) (hy : y1 < 20) : Met l yX4_tell wsX4_tell ({ frames := 0, cells := 0, slots := 0, locals := 0 } : Room) (xP lo D E h [.ref (ad 7 0), .int (nI k1), .int (nI y1), .int x1, .int x2]) (xQ lo D (fun v h' => v = none ∧ RC E Pr (((fX4_tell τ k1 y1 x1 x2))) ad fa h' ∧ cF Pr h h' ∧ CW ((fX4_tell τ k1 y1 x1 x2)))) 0 0 (xA lo) := by
  obtain ⟨G, hG⟩ : ∃ G, fX4_tell τ k1 y1 x1 x2 = G := ⟨_, rfl⟩
  rw [hG]
  unfold fX4_tell at hG
  refine Met.ofW (cc := cX4_tell) (maxL := 5) (ret := none) (by decide) rfl ?_
  intro p e s m args below meth c s₁ B hml hv
  obtain ⟨rfl, I⟩ := hv
  have hx := B.exec
  have hb := B.bytes
  have hr := B.returns
  have hts := atoms_spec (ws := wsX4_tell) B.pre
  have hown : s.vm.findClass RX4 = some m.cls := findClass_of_methodNamed B.named
  have hlocks := B.notSynchronized
  have hl := lv_entry ([.ref (ad 7 0), .int (nI k1), .int (nI y1), .int x1, .int x2] : List Value) (n := 5) (Nat.le_of_ble_eq_true rfl)
  rw [lg_entry_eq]
  generalize (lg_sl ([.ref (ad 7 0), .int (nI k1), .int (nI y1), .int x1, .int x2] : List Value) ++ List.replicate (5 - (lg_sl ([.ref (ad 7 0), .int (nI k1), .int (nI y1), .int x1, .int x2] : List Value)).length) Slot.unset).toArray = ls at hl ⊢
  have hl : lv_has ls 5 [(0, .ref (ad 7 0)), (1, .int (nI k1)), (2, .int (nI y1)), (3, .int x1), (4, .int x2)] := hl
  have hin4 : ∀ w ∈ u_ws RX4 TX4 2, w ∈ wsX4_tell := fun _ h => List.mem_cons_of_mem _ (List.mem_append_right _ (h))
  have hW0 := hW
  obtain ⟨w0, -⟩ := id hW
  have hS : va_S (xA lo) s.heap s.heap [] := va_S.rf
  have hT0 : XT lo s s.heap := I.2.2.2.2
  have hF : cF Pr h h := cF.rf
  refine lv_aload_n hx hb dX4_tell_0 rfl (lv_at hl 0 rfl) ?_
  refine xget (C := RX4) (T := TX4) (N := 2) 0 hx hb hts hin4 hown I hR.f7 rfl (by decide) (List.mem_of_getElem? (i := 1) rfl) rfl rfl dX4_tell_1 ?_
  refine lv_iload_n hx hb dX4_tell_4 rfl (lv_at hl 1 rfl) ?_
  refine lv_bipush (v := (nI 20)) hx hb dX4_tell_5 (by decide) ?_
  refine lv_imul hx hb dX4_tell_7 ?_
  refine xtop (y := .int (nI (k1 * 20))) (congrArg Value.int (pk_mul _ _)) ?_
  refine lv_iload_n hx hb dX4_tell_8 rfl (lv_at hl 2 rfl) ?_
  refine lv_iadd hx hb dX4_tell_9 ?_
  refine xtop (y := .int (nI (k1 * 20 + y1))) (congrArg Value.int (nI_add _ _)) ?_
  refine lv_iload_n hx hb dX4_tell_10 rfl (lv_at hl 3 rfl) ?_
  refine xiC (i := (k1 * 20 + y1)) (n := 80) hx hb I hS hF hR.f8 (by omega) (by decide) (hR.a8 (i := 0) (k1 * 20 + y1) x1) (hR.2.2.1 8 0 rfl) dX4_tell_11 (fun H locs hw I hR hF hS => ?_)
  have hR : RC E Pr (cSI τ 38 (k1 * 20 + y1) x1) ad fa hw := hR
  have hW : CW (cSI τ 38 (k1 * 20 + y1) x1) := hW.sI (t := 38) (by decide) (k1 * 20 + y1) x1
  refine lv_aload_n hx hb dX4_tell_12 rfl (lv_at hl 0 rfl) ?_
  refine xget (C := RX4) (T := TX4) (N := 2) 1 hx hb hts hin4 hown I hR.f7 rfl (by decide) (List.mem_of_getElem? (i := 2) rfl) rfl rfl dX4_tell_13 ?_
  refine lv_iload_n hx hb dX4_tell_16 rfl (lv_at hl 1 rfl) ?_
  refine lv_bipush (v := (nI 20)) hx hb dX4_tell_17 (by decide) ?_
  refine lv_imul hx hb dX4_tell_19 ?_
  refine xtop (y := .int (nI (k1 * 20))) (congrArg Value.int (pk_mul _ _)) ?_
  refine lv_iload_n hx hb dX4_tell_20 rfl (lv_at hl 2 rfl) ?_
  refine lv_iadd hx hb dX4_tell_21 ?_
  refine xtop (y := .int (nI (k1 * 20 + y1))) (congrArg Value.int (nI_add _ _)) ?_
  refine lv_iload hx hb dX4_tell_22 (lv_at hl 4 rfl) ?_
  refine xiC (i := (k1 * 20 + y1)) (n := 80) hx hb I hS hF hR.f9 (by omega) (by decide) (hR.a9 (i := 0) (k1 * 20 + y1) x2) (hR.2.2.1 9 0 rfl) dX4_tell_24 (fun H locs hw I hR hF hS => ?_)
  have hR : RC E Pr (cSI (cSI τ 38 (k1 * 20 + y1) x1) 39 (k1 * 20 + y1) x2) ad fa hw := hR
  have hW : CW (cSI (cSI τ 38 (k1 * 20 + y1) x1) 39 (k1 * 20 + y1) x2) := hW.sI (t := 39) (by decide) (k1 * 20 + y1) x2
  subst hG
  exact W.widen (Nat.le_of_ble_eq_true rfl) (Nat.le_of_ble_eq_true rfl) (xrvQ hx hb hr hlocks dX4_tell_25 I hS ⟨rfl, hR, hF, hW⟩)

def fX6_tellPool (τ : CT) (a1 : Nat) (x1 : Int32) (x2 : Int32) (x3 : Int32) : CT := (cSI (cSI (cSI (cSI τ 34 a1 (nI 1)) 35 a1 x1) 36 a1 x2) 37 a1 x3)
set_option maxHeartbeats 4000000 in
set_option maxRecDepth 100000 in
theorem mX6_tellPool (l : Launch) (lo : Nat) (D : va_G) (E : Nat → ClassId) (h : XW) (Pr : Nat → Prop) (τ : CT) (ad : Nat → Nat → Nat) (fa : Nat → Nat → Option Nat) (hR : RC E Pr τ ad fa h) (hW : CW τ) (a1 : Nat) (x1 : Int32) (x2 : Int32) (x3 : Int32) (h_a1 : a1 < 20) : Met l yX6_tellPool wsX6_tellPool ({ frames := 0, cells := 0, slots := 0, locals := 0 } : Room) (xP lo D E h [.ref (ad 18 a1), .int x1, .int x2, .int x3]) (xQ lo D (fun v h' => v = none ∧ RC E Pr (((fX6_tellPool τ a1 x1 x2 x3))) ad fa h' ∧ cF Pr h h' ∧ CW ((fX6_tellPool τ a1 x1 x2 x3)))) 0 0 (xA lo) := by
  obtain ⟨G, hG⟩ : ∃ G, fX6_tellPool τ a1 x1 x2 x3 = G := ⟨_, rfl⟩
  rw [hG]
  unfold fX6_tellPool at hG
  refine Met.ofW (cc := cX6_tellPool) (maxL := 4) (ret := none) (by decide) rfl ?_
  intro p e s m args below meth c s₁ B hml hv
  obtain ⟨rfl, I⟩ := hv
  have hx := B.exec
  have hb := B.bytes
  have hr := B.returns
  have hts := atoms_spec (ws := wsX6_tellPool) B.pre
  have hown : s.vm.findClass RX6 = some m.cls := findClass_of_methodNamed B.named
  have hlocks := B.notSynchronized
  have hl := lv_entry ([.ref (ad 18 a1), .int x1, .int x2, .int x3] : List Value) (n := 4) (Nat.le_of_ble_eq_true rfl)
  rw [lg_entry_eq]
  generalize (lg_sl ([.ref (ad 18 a1), .int x1, .int x2, .int x3] : List Value) ++ List.replicate (4 - (lg_sl ([.ref (ad 18 a1), .int x1, .int x2, .int x3] : List Value)).length) Slot.unset).toArray = ls at hl ⊢
  have hl : lv_has ls 4 [(0, .ref (ad 18 a1)), (1, .int x1), (2, .int x2), (3, .int x3)] := hl
  have hin6 : ∀ w ∈ u_ws RX6 TX6 7, w ∈ wsX6_tellPool := fun _ h => List.mem_cons_of_mem _ (List.mem_append_right _ (h))
  have hW0 := hW
  obtain ⟨w0, -⟩ := id hW
  have hS : va_S (xA lo) s.heap s.heap [] := va_S.rf
  have hT0 : XT lo s s.heap := I.2.2.2.2
  have hF : cF Pr h h := cF.rf
  refine lv_aload_n hx hb dX6_tellPool_0 rfl (lv_at hl 0 rfl) ?_
  refine lv_iconst (v := (nI 1)) hx hb dX6_tellPool_1 (by decide) ?_
  refine xputC 3 hx hb hts hin6 tyX6 tyX6_ok nmX6 hown I hS hF (hR.f18 (show a1 < 20 by first | assumption | omega)) rfl (by decide) (List.mem_of_getElem? (i := 1) rfl) rfl rfl rfl rfl rfl (Nat.le_of_ble_eq_true rfl) (hR.p18_3 (show a1 < 20 by first | assumption | omega) (nI 1)) (hR.2.2.1 18 a1 (show a1 < 20 by first | assumption | omega)) dX6_tellPool_2 (fun H locs hw I hR hF hS => ?_)
  have hR : RC E Pr (cSI τ 34 a1 (nI 1)) ad fa hw := hR
  have hW : CW (cSI τ 34 a1 (nI 1)) := hW.sB 34 a1 (Or.inr rfl)
  refine lv_aload_n hx hb dX6_tellPool_5 rfl (lv_at hl 0 rfl) ?_
  refine lv_iload_n hx hb dX6_tellPool_6 rfl (lv_at hl 1 rfl) ?_
  refine xputC 4 hx hb hts hin6 tyX6 tyX6_ok nmX6 hown I hS hF (hR.f18 (show a1 < 20 by first | assumption | omega)) rfl (by decide) (List.mem_of_getElem? (i := 2) rfl) rfl rfl rfl rfl rfl (Nat.le_of_ble_eq_true rfl) (hR.p18_4 (show a1 < 20 by first | assumption | omega) x1) (hR.2.2.1 18 a1 (show a1 < 20 by first | assumption | omega)) dX6_tellPool_7 (fun H locs hw I hR hF hS => ?_)
  have hR : RC E Pr (cSI (cSI τ 34 a1 (nI 1)) 35 a1 x1) ad fa hw := hR
  have hW : CW (cSI (cSI τ 34 a1 (nI 1)) 35 a1 x1) := hW.sI (t := 35) (by decide) a1 x1
  refine lv_aload_n hx hb dX6_tellPool_10 rfl (lv_at hl 0 rfl) ?_
  refine lv_iload_n hx hb dX6_tellPool_11 rfl (lv_at hl 2 rfl) ?_
  refine xputC 5 hx hb hts hin6 tyX6 tyX6_ok nmX6 hown I hS hF (hR.f18 (show a1 < 20 by first | assumption | omega)) rfl (by decide) (List.mem_of_getElem? (i := 3) rfl) rfl rfl rfl rfl rfl (Nat.le_of_ble_eq_true rfl) (hR.p18_5 (show a1 < 20 by first | assumption | omega) x2) (hR.2.2.1 18 a1 (show a1 < 20 by first | assumption | omega)) dX6_tellPool_12 (fun H locs hw I hR hF hS => ?_)
  have hR : RC E Pr (cSI (cSI (cSI τ 34 a1 (nI 1)) 35 a1 x1) 36 a1 x2) ad fa hw := hR
  have hW : CW (cSI (cSI (cSI τ 34 a1 (nI 1)) 35 a1 x1) 36 a1 x2) := hW.sI (t := 36) (by decide) a1 x2
  refine lv_aload_n hx hb dX6_tellPool_15 rfl (lv_at hl 0 rfl) ?_
  refine lv_iload_n hx hb dX6_tellPool_16 rfl (lv_at hl 3 rfl) ?_
  refine xputC 6 hx hb hts hin6 tyX6 tyX6_ok nmX6 hown I hS hF (hR.f18 (show a1 < 20 by first | assumption | omega)) rfl (by decide) (List.mem_of_getElem? (i := 4) rfl) rfl rfl rfl rfl rfl (Nat.le_of_ble_eq_true rfl) (hR.p18_6 (show a1 < 20 by first | assumption | omega) x3) (hR.2.2.1 18 a1 (show a1 < 20 by first | assumption | omega)) dX6_tellPool_17 (fun H locs hw I hR hF hS => ?_)
  have hR : RC E Pr (cSI (cSI (cSI (cSI τ 34 a1 (nI 1)) 35 a1 x1) 36 a1 x2) 37 a1 x3) ad fa hw := hR
  have hW : CW (cSI (cSI (cSI (cSI τ 34 a1 (nI 1)) 35 a1 x1) 36 a1 x2) 37 a1 x3) := hW.sI (t := 37) (by decide) a1 x3
  subst hG
  exact W.widen (Nat.le_of_ble_eq_true rfl) (Nat.le_of_ble_eq_true rfl) (xrvQ hx hb hr hlocks dX6_tellPool_20 I hS ⟨rfl, hR, hF, hW⟩)

def fX7_rule (τ : CT) (a1 : Int32) (a2 : Int32) (a3 : Int32) (a4 : Int32) : (String ⊕ CT) := (xbindE (fX7_checkKind a1) (fun _ => (xbindE (fX7_checkYear a2) (fun _ => (xbindE (fX7_checkRange a3 (nI 0) (nI 1000000)) (fun _ => (xbindE (fX7_checkRange a4 (nI 0) (nI 10000000)) (fun _ => (xbindE (fX7_checkOpen τ (tn a2)) (fun _ => (Sum.inr (fX4_tell τ (tn a1) (tn a2) (nI (tn a3)) (nI (tn a4))))))))))))))
set_option maxHeartbeats 4000000 in
set_option maxRecDepth 100000 in
theorem mX7_rule (l : Launch) (lo : Nat) (D : va_G) (E : Nat → ClassId) (h : XW) (hlst : l.stackTraces = false) (Pr : Nat → Prop) (τ : CT) (ad : Nat → Nat → Nat) (fa : Nat → Nat → Option Nat) (hR : RC E Pr τ ad fa h) (hW : CW τ) (a1 : Int32) (a2 : Int32) (a3 : Int32) (a4 : Int32) : vx_Met l yX7_rule wsX7_rule ({ frames := 8, cells := 5, slots := 30, locals := 132 } : Room) (xP lo D E h [.ref (ad 0 0), .int a1, .int a2, .int a3, .int a4]) (xQ lo D (fun v h' => ∃ x, (fX7_rule τ a1 a2 a3 a4) = .inr x ∧ v = none ∧ RC E Pr (x) ad fa h' ∧ cF Pr h h' ∧ CW x)) (xXp lo D h (fun En => (fX7_rule τ a1 a2 a3 a4) = .inl En)) 5 30 (xA lo) := by
  obtain ⟨G, hG⟩ : ∃ G, fX7_rule τ a1 a2 a3 a4 = G := ⟨_, rfl⟩
  rw [hG]
  unfold fX7_rule at hG
  refine vx_ofW (cc := cX7_rule) (maxL := 5) (ret := none) (by decide) rfl ?_
  intro p e s m args below meth c s₁ B hml hout hv
  obtain ⟨rfl, I⟩ := hv
  have hx := B.exec
  have hb := B.bytes
  have hr := B.returns
  have hts := atoms_spec (ws := wsX7_rule) B.pre
  have hown : s.vm.findClass RX7 = some m.cls := findClass_of_methodNamed B.named
  have hlocks := B.notSynchronized
  have hl := lv_entry ([.ref (ad 0 0), .int a1, .int a2, .int a3, .int a4] : List Value) (n := 5) (Nat.le_of_ble_eq_true rfl)
  rw [lg_entry_eq]
  generalize (lg_sl ([.ref (ad 0 0), .int a1, .int a2, .int a3, .int a4] : List Value) ++ List.replicate (5 - (lg_sl ([.ref (ad 0 0), .int a1, .int a2, .int a3, .int a4] : List Value)).length) Slot.unset).toArray = ls at hl ⊢
  have hl : lv_has ls 5 [(0, .ref (ad 0 0)), (1, .int a1), (2, .int a2), (3, .int a3), (4, .int a4)] := hl
  have hin7 : ∀ w ∈ u_ws RX7 TX7 14, w ∈ wsX7_rule := fun _ h => List.mem_cons_of_mem _ (List.mem_append_left _ (List.mem_append_left _ (List.mem_append_left _ (List.mem_append_left _ (List.mem_append_right _ (h))))))
  have hin4 : ∀ w ∈ u_ws RX4 TX4 2, w ∈ wsX7_rule := fun _ h => List.mem_cons_of_mem _ (List.mem_append_left _ (List.mem_append_left _ (List.mem_append_right _ (h))))
  have hin6 : ∀ w ∈ u_ws RX6 TX6 7, w ∈ wsX7_rule := fun _ h => List.mem_cons_of_mem _ (List.mem_append_left _ (List.mem_append_left _ (List.mem_append_left _ (List.mem_append_right _ (h)))))
  have hg61 : ∀ w ∈ (vx_atS RX7 61 "java/lang/IllegalStateException" xnames).filter goodWord, w ∈ wsX7_rule := fun _ h => List.mem_cons_of_mem _ (List.mem_append_right _ (h))
  have hg177 : ∀ w ∈ (vx_atS RX7 177 "java/lang/IllegalArgumentException" xnames).filter goodWord, w ∈ wsX7_rule := fun _ h => List.mem_cons_of_mem _ (List.mem_append_left _ (List.mem_append_right _ (h)))
  have hW0 := hW
  obtain ⟨w0, -⟩ := id hW
  have hS : va_S (xA lo) s.heap s.heap [] := va_S.rf
  have hT0 : XT lo s s.heap := I.2.2.2.2
  have hF : cF Pr h h := cF.rf
  refine lv_iload_n hx hb dX7_rule_0 rfl (lv_at hl 1 rfl) ?_
  refine xcsX (As := [.int a1]) (rest := []) ⟨hx, hb, hml, hown, hts⟩ (mX7_checkKind l lo D E h hlst a1) (va_cwS 1 hts gX7_rule_X7_checkKind rfl rfl rfl (by decide +kernel) ⟨Nat.le_of_ble_eq_true rfl, Nat.le_of_ble_eq_true rfl⟩) I hS rfl hl.1 rfl (Nat.le_of_ble_eq_true rfl) dX7_rule_1 ⟨Nat.le_of_ble_eq_true rfl, Nat.le_of_ble_eq_true rfl⟩ hout hlocks (fun En q => by rw [q] at hG; exact hG.symm) ⟨Nat.le_of_ble_eq_true rfl, Nat.le_of_ble_eq_true rfl⟩ (fun v9 hw9 H locs q9 I hS => ?_)
  obtain ⟨x1, e1, q1, q2⟩ := q9
  subst q1
  rw [q2] at I
  rw [e1] at hG
  have hG : (xbindE (fX7_checkYear a2) (fun _ => (xbindE (fX7_checkRange a3 (nI 0) (nI 1000000)) (fun _ => (xbindE (fX7_checkRange a4 (nI 0) (nI 10000000)) (fun _ => (xbindE (fX7_checkOpen τ (tn a2)) (fun _ => (Sum.inr (fX4_tell τ (tn a1) (tn a2) (nI (tn a3)) (nI (tn a4)))))))))))) = G := hG
  obtain ⟨e_a1, l_a1⟩ := okc_checkKind e1
  refine W.eq (g2 := F0 m 4 ls []) rfl ?_
  refine lv_iload_n hx hb dX7_rule_4 rfl (lv_at hl 2 rfl) ?_
  refine xcsX (As := [.int a2]) (rest := []) ⟨hx, hb, hml, hown, hts⟩ (mX7_checkYear l lo D E h hlst a2) (va_cwS 1 hts gX7_rule_X7_checkYear rfl rfl rfl (by decide +kernel) ⟨Nat.le_of_ble_eq_true rfl, Nat.le_of_ble_eq_true rfl⟩) I hS rfl hl.1 rfl (Nat.le_of_ble_eq_true rfl) dX7_rule_5 ⟨Nat.le_of_ble_eq_true rfl, Nat.le_of_ble_eq_true rfl⟩ hout hlocks (fun En q => by rw [q] at hG; exact hG.symm) ⟨Nat.le_of_ble_eq_true rfl, Nat.le_of_ble_eq_true rfl⟩ (fun v9 hw9 H locs q9 I hS => ?_)
  obtain ⟨x5, e5, q1, q2⟩ := q9
  subst q1
  rw [q2] at I
  rw [e5] at hG
  have hG : (xbindE (fX7_checkRange a3 (nI 0) (nI 1000000)) (fun _ => (xbindE (fX7_checkRange a4 (nI 0) (nI 10000000)) (fun _ => (xbindE (fX7_checkOpen τ (tn a2)) (fun _ => (Sum.inr (fX4_tell τ (tn a1) (tn a2) (nI (tn a3)) (nI (tn a4)))))))))) = G := hG
  obtain ⟨e_a2, l_a2⟩ := okc_checkYear e5
  refine W.eq (g2 := F0 m 8 ls []) rfl ?_
  refine lv_iload_n hx hb dX7_rule_8 rfl (lv_at hl 3 rfl) ?_
  refine lv_iconst (v := (nI 0)) hx hb dX7_rule_9 (by decide) ?_
  refine lv_ldc (v := (nI 1000000)) hx hb hown (hts _ (List.mem_of_getElem? (i := 1) rfl)) dX7_rule_10 ?_
  refine xcsX (As := [.int a3, .int (nI 0), .int (nI 1000000)]) (rest := []) ⟨hx, hb, hml, hown, hts⟩ (mX7_checkRange l lo D E h hlst a3 (nI 0) (nI 1000000)) (va_cwS 3 hts gX7_rule_X7_checkRange rfl rfl rfl (by decide +kernel) ⟨Nat.le_of_ble_eq_true rfl, Nat.le_of_ble_eq_true rfl⟩) I hS rfl hl.1 rfl (Nat.le_of_ble_eq_true rfl) dX7_rule_12 ⟨Nat.le_of_ble_eq_true rfl, Nat.le_of_ble_eq_true rfl⟩ hout hlocks (fun En q => by rw [q] at hG; exact hG.symm) ⟨Nat.le_of_ble_eq_true rfl, Nat.le_of_ble_eq_true rfl⟩ (fun v9 hw9 H locs q9 I hS => ?_)
  obtain ⟨x12, e12, q1, q2⟩ := q9
  subst q1
  rw [q2] at I
  rw [e12] at hG
  have hG : (xbindE (fX7_checkRange a4 (nI 0) (nI 10000000)) (fun _ => (xbindE (fX7_checkOpen τ (tn a2)) (fun _ => (Sum.inr (fX4_tell τ (tn a1) (tn a2) (nI (tn a3)) (nI (tn a4)))))))) = G := hG
  obtain ⟨e_a3, l_a3⟩ := okc_checkRange (by omega) e12
  refine W.eq (g2 := F0 m 15 ls []) rfl ?_
  refine lv_iload hx hb dX7_rule_15 (lv_at hl 4 rfl) ?_
  refine lv_iconst (v := (nI 0)) hx hb dX7_rule_17 (by decide) ?_
  refine lv_ldc (v := (nI 10000000)) hx hb hown (hts _ (List.mem_of_getElem? (i := 2) rfl)) dX7_rule_18 ?_
  refine xcsX (As := [.int a4, .int (nI 0), .int (nI 10000000)]) (rest := []) ⟨hx, hb, hml, hown, hts⟩ (mX7_checkRange l lo D E h hlst a4 (nI 0) (nI 10000000)) (va_cwS 3 hts gX7_rule_X7_checkRange rfl rfl rfl (by decide +kernel) ⟨Nat.le_of_ble_eq_true rfl, Nat.le_of_ble_eq_true rfl⟩) I hS rfl hl.1 rfl (Nat.le_of_ble_eq_true rfl) dX7_rule_20 ⟨Nat.le_of_ble_eq_true rfl, Nat.le_of_ble_eq_true rfl⟩ hout hlocks (fun En q => by rw [q] at hG; exact hG.symm) ⟨Nat.le_of_ble_eq_true rfl, Nat.le_of_ble_eq_true rfl⟩ (fun v9 hw9 H locs q9 I hS => ?_)
  obtain ⟨x20, e20, q1, q2⟩ := q9
  subst q1
  rw [q2] at I
  rw [e20] at hG
  have hG : (xbindE (fX7_checkOpen τ (tn a2)) (fun _ => (Sum.inr (fX4_tell τ (tn a1) (tn a2) (nI (tn a3)) (nI (tn a4)))))) = G := hG
  obtain ⟨e_a4, l_a4⟩ := okc_checkRange (by omega) e20
  refine W.eq (g2 := F0 m 23 ls []) rfl ?_
  refine lv_aload_n hx hb dX7_rule_23 rfl (lv_at hl 0 rfl) ?_
  refine lv_iload_n hx hb dX7_rule_24 rfl (lv_at hl 2 rfl) ?_
  refine xtop (y := .int (nI (tn a2))) (congrArg Value.int e_a2) ?_
  refine xcvX (As := [.int (nI (tn a2))]) (rest := []) ⟨hx, hb, hml, hown, hts⟩ (mX7_checkOpen l lo D E h hlst Pr τ ad fa hR hW (tn a2) (by first | assumption | omega)) (cwV 1 hts gX7_rule_X7_checkOpen rfl rfl rfl (by decide +kernel) ⟨Nat.le_of_ble_eq_true rfl, Nat.le_of_ble_eq_true rfl⟩) I hS hR.f0 rfl rfl hl.1 rfl (Nat.le_of_ble_eq_true rfl) dX7_rule_25 ⟨Nat.le_of_ble_eq_true rfl, Nat.le_of_ble_eq_true rfl⟩ hout hlocks (fun En q => by rw [q] at hG; exact hG.symm) ⟨Nat.le_of_ble_eq_true rfl, Nat.le_of_ble_eq_true rfl⟩ (fun v9 hw9 H locs q9 I hS => ?_)
  obtain ⟨x25, e25, q1, q2⟩ := q9
  subst q1
  rw [q2] at I
  rw [e25] at hG
  have hG : (Sum.inr (fX4_tell τ (tn a1) (tn a2) (nI (tn a3)) (nI (tn a4)))) = G := hG
  refine W.eq (g2 := F0 m 28 ls []) rfl ?_
  refine lv_aload_n hx hb dX7_rule_28 rfl (lv_at hl 0 rfl) ?_
  refine xget (C := RX7) (T := TX7) (N := 14) 6 hx hb hts hin7 hown I hR.f0 rfl (by decide) (List.mem_of_getElem? (i := 3) rfl) rfl rfl dX7_rule_29 ?_
  refine lv_iload_n hx hb dX7_rule_32 rfl (lv_at hl 1 rfl) ?_
  refine xtop (y := .int (nI (tn a1))) (congrArg Value.int e_a1) ?_
  refine lv_iload_n hx hb dX7_rule_33 rfl (lv_at hl 2 rfl) ?_
  refine xtop (y := .int (nI (tn a2))) (congrArg Value.int e_a2) ?_
  refine lv_iload_n hx hb dX7_rule_34 rfl (lv_at hl 3 rfl) ?_
  refine xtop (y := .int (nI (tn a3))) (congrArg Value.int e_a3) ?_
  refine lv_iload hx hb dX7_rule_35 (lv_at hl 4 rfl) ?_
  refine xtop (y := .int (nI (tn a4))) (congrArg Value.int e_a4) ?_
  refine xcvQ (As := [.int (nI (tn a1)), .int (nI (tn a2)), .int (nI (tn a3)), .int (nI (tn a4))]) (rest := []) ⟨hx, hb, hml, hown, hts⟩ (mX4_tell l lo D E h Pr τ ad fa hR hW (tn a1) (tn a2) (nI (tn a3)) (nI (tn a4)) (by first | assumption | omega) (by first | assumption | omega)) (cwV 4 hts gX7_rule_X4_tell rfl rfl rfl (by decide +kernel) ⟨Nat.le_of_ble_eq_true rfl, Nat.le_of_ble_eq_true rfl⟩) I hS hR.f7 rfl rfl hl.1 rfl (Nat.le_of_ble_eq_true rfl) dX7_rule_37 ⟨Nat.le_of_ble_eq_true rfl, Nat.le_of_ble_eq_true rfl⟩ (fun v9 hw H locs q9 I hS => ?_)
  obtain ⟨q1, hR, hF9, hW⟩ := q9
  subst q1
  have hF := cF.tr hF hF9
  refine W.eq (g2 := F0 m 40 ls []) rfl ?_
  exact xrvX hx hb hr hlocks dX7_rule_40 I hS ⟨_, hG.symm, rfl, hR, hF, hW⟩ (Nat.le_of_ble_eq_true rfl) (Nat.le_of_ble_eq_true rfl)

def fX7_pool (τ : CT) (a1 : Int32) (a2 : Int32) (a3 : Int32) (a4 : Int32) : (String ⊕ CT) := (xbindE (fX7_checkYear a1) (fun _ => (xbindE (fX7_checkRange a2 (nI 0) (nI 10000000)) (fun _ => (xbindE (fX7_checkRange a3 (nI (tn a2)) (nI 100000000)) (fun _ => (xbindE (fX7_checkRange a4 (nI 0) (nI 100)) (fun _ => (xbindE (fX7_checkOpen τ (tn a1)) (fun _ => (Sum.inr (fX6_tellPool τ (tn a1) (nI (tn a2)) (nI (tn a3)) (nI (tn a4))))))))))))))
set_option maxHeartbeats 4000000 in
set_option maxRecDepth 100000 in
theorem mX7_pool (l : Launch) (lo : Nat) (D : va_G) (E : Nat → ClassId) (h : XW) (hlst : l.stackTraces = false) (Pr : Nat → Prop) (τ : CT) (ad : Nat → Nat → Nat) (fa : Nat → Nat → Option Nat) (hR : RC E Pr τ ad fa h) (hW : CW τ) (a1 : Int32) (a2 : Int32) (a3 : Int32) (a4 : Int32) : vx_Met l yX7_pool wsX7_pool ({ frames := 8, cells := 5, slots := 30, locals := 132 } : Room) (xP lo D E h [.ref (ad 0 0), .int a1, .int a2, .int a3, .int a4]) (xQ lo D (fun v h' => ∃ x, (fX7_pool τ a1 a2 a3 a4) = .inr x ∧ v = none ∧ RC E Pr (x) ad fa h' ∧ cF Pr h h' ∧ CW x)) (xXp lo D h (fun En => (fX7_pool τ a1 a2 a3 a4) = .inl En)) 5 30 (xA lo) := by
  obtain ⟨G, hG⟩ : ∃ G, fX7_pool τ a1 a2 a3 a4 = G := ⟨_, rfl⟩
  rw [hG]
  unfold fX7_pool at hG
  refine vx_ofW (cc := cX7_pool) (maxL := 5) (ret := none) (by decide) rfl ?_
  intro p e s m args below meth c s₁ B hml hout hv
  obtain ⟨rfl, I⟩ := hv
  have hx := B.exec
  have hb := B.bytes
  have hr := B.returns
  have hts := atoms_spec (ws := wsX7_pool) B.pre
  have hown : s.vm.findClass RX7 = some m.cls := findClass_of_methodNamed B.named
  have hlocks := B.notSynchronized
  have hl := lv_entry ([.ref (ad 0 0), .int a1, .int a2, .int a3, .int a4] : List Value) (n := 5) (Nat.le_of_ble_eq_true rfl)
  rw [lg_entry_eq]
  generalize (lg_sl ([.ref (ad 0 0), .int a1, .int a2, .int a3, .int a4] : List Value) ++ List.replicate (5 - (lg_sl ([.ref (ad 0 0), .int a1, .int a2, .int a3, .int a4] : List Value)).length) Slot.unset).toArray = ls at hl ⊢
  have hl : lv_has ls 5 [(0, .ref (ad 0 0)), (1, .int a1), (2, .int a2), (3, .int a3), (4, .int a4)] := hl
  have hin7 : ∀ w ∈ u_ws RX7 TX7 14, w ∈ wsX7_pool := fun _ h => List.mem_cons_of_mem _ (List.mem_append_left _ (List.mem_append_left _ (List.mem_append_left _ (List.mem_append_right _ (h)))))
  have hin6 : ∀ w ∈ u_ws RX6 TX6 7, w ∈ wsX7_pool := fun _ h => List.mem_cons_of_mem _ (List.mem_append_left _ (List.mem_append_left _ (List.mem_append_right _ (h))))
  have hg61 : ∀ w ∈ (vx_atS RX7 61 "java/lang/IllegalStateException" xnames).filter goodWord, w ∈ wsX7_pool := fun _ h => List.mem_cons_of_mem _ (List.mem_append_right _ (h))
  have hg177 : ∀ w ∈ (vx_atS RX7 177 "java/lang/IllegalArgumentException" xnames).filter goodWord, w ∈ wsX7_pool := fun _ h => List.mem_cons_of_mem _ (List.mem_append_left _ (List.mem_append_right _ (h)))
  have hW0 := hW
  obtain ⟨w0, -⟩ := id hW
  have hS : va_S (xA lo) s.heap s.heap [] := va_S.rf
  have hT0 : XT lo s s.heap := I.2.2.2.2
  have hF : cF Pr h h := cF.rf
  refine lv_iload_n hx hb dX7_pool_0 rfl (lv_at hl 1 rfl) ?_
  refine xcsX (As := [.int a1]) (rest := []) ⟨hx, hb, hml, hown, hts⟩ (mX7_checkYear l lo D E h hlst a1) (va_cwS 1 hts gX7_pool_X7_checkYear rfl rfl rfl (by decide +kernel) ⟨Nat.le_of_ble_eq_true rfl, Nat.le_of_ble_eq_true rfl⟩) I hS rfl hl.1 rfl (Nat.le_of_ble_eq_true rfl) dX7_pool_1 ⟨Nat.le_of_ble_eq_true rfl, Nat.le_of_ble_eq_true rfl⟩ hout hlocks (fun En q => by rw [q] at hG; exact hG.symm) ⟨Nat.le_of_ble_eq_true rfl, Nat.le_of_ble_eq_true rfl⟩ (fun v9 hw9 H locs q9 I hS => ?_)
  obtain ⟨x1, e1, q1, q2⟩ := q9
  subst q1
  rw [q2] at I
  rw [e1] at hG
  have hG : (xbindE (fX7_checkRange a2 (nI 0) (nI 10000000)) (fun _ => (xbindE (fX7_checkRange a3 (nI (tn a2)) (nI 100000000)) (fun _ => (xbindE (fX7_checkRange a4 (nI 0) (nI 100)) (fun _ => (xbindE (fX7_checkOpen τ (tn a1)) (fun _ => (Sum.inr (fX6_tellPool τ (tn a1) (nI (tn a2)) (nI (tn a3)) (nI (tn a4)))))))))))) = G := hG
  obtain ⟨e_a1, l_a1⟩ := okc_checkYear e1
  refine W.eq (g2 := F0 m 4 ls []) rfl ?_
  refine lv_iload_n hx hb dX7_pool_4 rfl (lv_at hl 2 rfl) ?_
  refine lv_iconst (v := (nI 0)) hx hb dX7_pool_5 (by decide) ?_
  refine lv_ldc (v := (nI 10000000)) hx hb hown (hts _ (List.mem_of_getElem? (i := 1) rfl)) dX7_pool_6 ?_
  refine xcsX (As := [.int a2, .int (nI 0), .int (nI 10000000)]) (rest := []) ⟨hx, hb, hml, hown, hts⟩ (mX7_checkRange l lo D E h hlst a2 (nI 0) (nI 10000000)) (va_cwS 3 hts gX7_pool_X7_checkRange rfl rfl rfl (by decide +kernel) ⟨Nat.le_of_ble_eq_true rfl, Nat.le_of_ble_eq_true rfl⟩) I hS rfl hl.1 rfl (Nat.le_of_ble_eq_true rfl) dX7_pool_8 ⟨Nat.le_of_ble_eq_true rfl, Nat.le_of_ble_eq_true rfl⟩ hout hlocks (fun En q => by rw [q] at hG; exact hG.symm) ⟨Nat.le_of_ble_eq_true rfl, Nat.le_of_ble_eq_true rfl⟩ (fun v9 hw9 H locs q9 I hS => ?_)
  obtain ⟨x8, e8, q1, q2⟩ := q9
  subst q1
  rw [q2] at I
  rw [e8] at hG
  have hG : (xbindE (fX7_checkRange a3 (nI (tn a2)) (nI 100000000)) (fun _ => (xbindE (fX7_checkRange a4 (nI 0) (nI 100)) (fun _ => (xbindE (fX7_checkOpen τ (tn a1)) (fun _ => (Sum.inr (fX6_tellPool τ (tn a1) (nI (tn a2)) (nI (tn a3)) (nI (tn a4)))))))))) = G := hG
  obtain ⟨e_a2, l_a2⟩ := okc_checkRange (by omega) e8
  refine W.eq (g2 := F0 m 11 ls []) rfl ?_
  refine lv_iload_n hx hb dX7_pool_11 rfl (lv_at hl 3 rfl) ?_
  refine lv_iload_n hx hb dX7_pool_12 rfl (lv_at hl 2 rfl) ?_
  refine xtop (y := .int (nI (tn a2))) (congrArg Value.int e_a2) ?_
  refine lv_ldc (v := (nI 100000000)) hx hb hown (hts _ (List.mem_of_getElem? (i := 2) rfl)) dX7_pool_13 ?_
  refine xcsX (As := [.int a3, .int (nI (tn a2)), .int (nI 100000000)]) (rest := []) ⟨hx, hb, hml, hown, hts⟩ (mX7_checkRange l lo D E h hlst a3 (nI (tn a2)) (nI 100000000)) (va_cwS 3 hts gX7_pool_X7_checkRange rfl rfl rfl (by decide +kernel) ⟨Nat.le_of_ble_eq_true rfl, Nat.le_of_ble_eq_true rfl⟩) I hS rfl hl.1 rfl (Nat.le_of_ble_eq_true rfl) dX7_pool_15 ⟨Nat.le_of_ble_eq_true rfl, Nat.le_of_ble_eq_true rfl⟩ hout hlocks (fun En q => by rw [q] at hG; exact hG.symm) ⟨Nat.le_of_ble_eq_true rfl, Nat.le_of_ble_eq_true rfl⟩ (fun v9 hw9 H locs q9 I hS => ?_)
  obtain ⟨x15, e15, q1, q2⟩ := q9
  subst q1
  rw [q2] at I
  rw [e15] at hG
  have hG : (xbindE (fX7_checkRange a4 (nI 0) (nI 100)) (fun _ => (xbindE (fX7_checkOpen τ (tn a1)) (fun _ => (Sum.inr (fX6_tellPool τ (tn a1) (nI (tn a2)) (nI (tn a3)) (nI (tn a4)))))))) = G := hG
  obtain ⟨e_a3, l_a3⟩ := okc_checkRange (by omega) e15
  refine W.eq (g2 := F0 m 18 ls []) rfl ?_
  refine lv_iload hx hb dX7_pool_18 (lv_at hl 4 rfl) ?_
  refine lv_iconst (v := (nI 0)) hx hb dX7_pool_20 (by decide) ?_
  refine lv_bipush (v := (nI 100)) hx hb dX7_pool_21 (by decide) ?_
  refine xcsX (As := [.int a4, .int (nI 0), .int (nI 100)]) (rest := []) ⟨hx, hb, hml, hown, hts⟩ (mX7_checkRange l lo D E h hlst a4 (nI 0) (nI 100)) (va_cwS 3 hts gX7_pool_X7_checkRange rfl rfl rfl (by decide +kernel) ⟨Nat.le_of_ble_eq_true rfl, Nat.le_of_ble_eq_true rfl⟩) I hS rfl hl.1 rfl (Nat.le_of_ble_eq_true rfl) dX7_pool_23 ⟨Nat.le_of_ble_eq_true rfl, Nat.le_of_ble_eq_true rfl⟩ hout hlocks (fun En q => by rw [q] at hG; exact hG.symm) ⟨Nat.le_of_ble_eq_true rfl, Nat.le_of_ble_eq_true rfl⟩ (fun v9 hw9 H locs q9 I hS => ?_)
  obtain ⟨x23, e23, q1, q2⟩ := q9
  subst q1
  rw [q2] at I
  rw [e23] at hG
  have hG : (xbindE (fX7_checkOpen τ (tn a1)) (fun _ => (Sum.inr (fX6_tellPool τ (tn a1) (nI (tn a2)) (nI (tn a3)) (nI (tn a4)))))) = G := hG
  obtain ⟨e_a4, l_a4⟩ := okc_checkRange (by omega) e23
  refine W.eq (g2 := F0 m 26 ls []) rfl ?_
  refine lv_aload_n hx hb dX7_pool_26 rfl (lv_at hl 0 rfl) ?_
  refine lv_iload_n hx hb dX7_pool_27 rfl (lv_at hl 1 rfl) ?_
  refine xtop (y := .int (nI (tn a1))) (congrArg Value.int e_a1) ?_
  refine xcvX (As := [.int (nI (tn a1))]) (rest := []) ⟨hx, hb, hml, hown, hts⟩ (mX7_checkOpen l lo D E h hlst Pr τ ad fa hR hW (tn a1) (by first | assumption | omega)) (cwV 1 hts gX7_pool_X7_checkOpen rfl rfl rfl (by decide +kernel) ⟨Nat.le_of_ble_eq_true rfl, Nat.le_of_ble_eq_true rfl⟩) I hS hR.f0 rfl rfl hl.1 rfl (Nat.le_of_ble_eq_true rfl) dX7_pool_28 ⟨Nat.le_of_ble_eq_true rfl, Nat.le_of_ble_eq_true rfl⟩ hout hlocks (fun En q => by rw [q] at hG; exact hG.symm) ⟨Nat.le_of_ble_eq_true rfl, Nat.le_of_ble_eq_true rfl⟩ (fun v9 hw9 H locs q9 I hS => ?_)
  obtain ⟨x28, e28, q1, q2⟩ := q9
  subst q1
  rw [q2] at I
  rw [e28] at hG
  have hG : (Sum.inr (fX6_tellPool τ (tn a1) (nI (tn a2)) (nI (tn a3)) (nI (tn a4)))) = G := hG
  refine W.eq (g2 := F0 m 31 ls []) rfl ?_
  refine lv_aload_n hx hb dX7_pool_31 rfl (lv_at hl 0 rfl) ?_
  refine xget (C := RX7) (T := TX7) (N := 14) 5 hx hb hts hin7 hown I hR.f0 rfl (by decide) (List.mem_of_getElem? (i := 3) rfl) rfl rfl dX7_pool_32 ?_
  refine lv_iload_n hx hb dX7_pool_35 rfl (lv_at hl 1 rfl) ?_
  refine xtop (y := .int (nI (tn a1))) (congrArg Value.int e_a1) ?_
  refine xaald (i := (tn a1)) (n := 20) 8 hx hb I rfl hR.f6 (by omega) (by decide) (hR.2.2.2.2.2.2.2.2.2 (tn a1) (show tn a1 < 20 by first | assumption | omega)) dX7_pool_36 ?_
  refine W.eq (g2 := F0 m 37 ls [.ref (ad 18 (tn a1))]) rfl ?_
  refine lv_iload_n hx hb dX7_pool_37 rfl (lv_at hl 2 rfl) ?_
  refine xtop (y := .int (nI (tn a2))) (congrArg Value.int e_a2) ?_
  refine lv_iload_n hx hb dX7_pool_38 rfl (lv_at hl 3 rfl) ?_
  refine xtop (y := .int (nI (tn a3))) (congrArg Value.int e_a3) ?_
  refine lv_iload hx hb dX7_pool_39 (lv_at hl 4 rfl) ?_
  refine xtop (y := .int (nI (tn a4))) (congrArg Value.int e_a4) ?_
  refine xcvQ (As := [.int (nI (tn a2)), .int (nI (tn a3)), .int (nI (tn a4))]) (rest := []) ⟨hx, hb, hml, hown, hts⟩ (mX6_tellPool l lo D E h Pr τ ad fa hR hW (tn a1) (nI (tn a2)) (nI (tn a3)) (nI (tn a4)) (show tn a1 < 20 by first | assumption | omega)) (cwV 3 hts gX7_pool_X6_tellPool rfl rfl rfl (by decide +kernel) ⟨Nat.le_of_ble_eq_true rfl, Nat.le_of_ble_eq_true rfl⟩) I hS (hR.f18 (show tn a1 < 20 by first | assumption | omega)) rfl rfl hl.1 rfl (Nat.le_of_ble_eq_true rfl) dX7_pool_41 ⟨Nat.le_of_ble_eq_true rfl, Nat.le_of_ble_eq_true rfl⟩ (fun v9 hw H locs q9 I hS => ?_)
  obtain ⟨q1, hR, hF9, hW⟩ := q9
  subst q1
  have hF := cF.tr hF hF9
  refine W.eq (g2 := F0 m 44 ls []) rfl ?_
  exact xrvX hx hb hr hlocks dX7_pool_44 I hS ⟨_, hG.symm, rfl, hR, hF, hW⟩ (Nat.le_of_ble_eq_true rfl) (Nat.le_of_ble_eq_true rfl)

def fX7_releaseFrom (τ : CT) (m1 : Nat) (y1 : Nat) (x1 : Int32) : CT := (cSM (cSD τ m1 y1 ((fX7_dueOf τ m1 y1) + (((fX7_advanceOf τ m1 y1) * x1.toInt64) / (100 : Int64)))) 1 m1 y1 (nI 1))
set_option maxHeartbeats 4000000 in
set_option maxRecDepth 100000 in
theorem mX7_releaseFrom (l : Launch) (lo : Nat) (D : va_G) (E : Nat → ClassId) (h : XW) (Pr : Nat → Prop) (τ : CT) (ad : Nat → Nat → Nat) (fa : Nat → Nat → Option Nat) (hR : RC E Pr τ ad fa h) (hW : CW τ) (m1 : Nat) (y1 : Nat) (x1 : Int32) (h_m1 : m1 < cN τ 0) (hy : y1 < 20) : Met l yX7_releaseFrom wsX7_releaseFrom ({ frames := 5, cells := 0, slots := 0, locals := 121 } : Room) (xP lo D E h [.ref (ad 0 0), .ref (ad 10 m1), .int (nI y1), .int x1]) (xQ lo D (fun v h' => v = none ∧ RC E Pr (((fX7_releaseFrom τ m1 y1 x1))) ad fa h' ∧ cF Pr h h' ∧ CW ((fX7_releaseFrom τ m1 y1 x1)))) 0 0 (xA lo) := by
  obtain ⟨G, hG⟩ : ∃ G, fX7_releaseFrom τ m1 y1 x1 = G := ⟨_, rfl⟩
  rw [hG]
  unfold fX7_releaseFrom at hG
  refine Met.ofW (cc := cX7_releaseFrom) (maxL := 6) (ret := none) (by decide) rfl ?_
  intro p e s m args below meth c s₁ B hml hv
  obtain ⟨rfl, I⟩ := hv
  have hx := B.exec
  have hb := B.bytes
  have hr := B.returns
  have hts := atoms_spec (ws := wsX7_releaseFrom) B.pre
  have hown : s.vm.findClass RX7 = some m.cls := findClass_of_methodNamed B.named
  have hlocks := B.notSynchronized
  have hl := lv_entry ([.ref (ad 0 0), .ref (ad 10 m1), .int (nI y1), .int x1] : List Value) (n := 6) (Nat.le_of_ble_eq_true rfl)
  rw [lg_entry_eq]
  generalize (lg_sl ([.ref (ad 0 0), .ref (ad 10 m1), .int (nI y1), .int x1] : List Value) ++ List.replicate (6 - (lg_sl ([.ref (ad 0 0), .ref (ad 10 m1), .int (nI y1), .int x1] : List Value)).length) Slot.unset).toArray = ls at hl ⊢
  have hl : lv_has ls 6 [(0, .ref (ad 0 0)), (1, .ref (ad 10 m1)), (2, .int (nI y1)), (3, .int x1)] := hl
  have hin7 : ∀ w ∈ u_ws RX7 TX7 14, w ∈ wsX7_releaseFrom := fun _ h => List.mem_cons_of_mem _ (List.mem_append_left _ (List.mem_append_left _ (List.mem_append_left _ (List.mem_append_right _ (h)))))
  have hin3 : ∀ w ∈ u_ws RX3 TX3 5, w ∈ wsX7_releaseFrom := fun _ h => List.mem_cons_of_mem _ (List.mem_append_left _ (List.mem_append_left _ (List.mem_append_left _ (List.mem_append_left _ (List.mem_append_right _ (h))))))
  have hin5 : ∀ w ∈ u_ws RX5 TX5 4, w ∈ wsX7_releaseFrom := fun _ h => List.mem_cons_of_mem _ (List.mem_append_right _ (h))
  have hin1 : ∀ w ∈ u_ws RX1 TX1 3, w ∈ wsX7_releaseFrom := fun _ h => List.mem_cons_of_mem _ (List.mem_append_left _ (List.mem_append_right _ (h)))
  have hin6 : ∀ w ∈ u_ws RX6 TX6 7, w ∈ wsX7_releaseFrom := fun _ h => List.mem_cons_of_mem _ (List.mem_append_left _ (List.mem_append_left _ (List.mem_append_right _ (h))))
  have hW0 := hW
  obtain ⟨w0, -⟩ := id hW
  have hS : va_S (xA lo) s.heap s.heap [] := va_S.rf
  have hT0 : XT lo s s.heap := I.2.2.2.2
  have hF : cF Pr h h := cF.rf
  refine lv_aload_n hx hb dX7_releaseFrom_0 rfl (lv_at hl 0 rfl) ?_
  refine lv_aload_n hx hb dX7_releaseFrom_1 rfl (lv_at hl 1 rfl) ?_
  refine lv_iload_n hx hb dX7_releaseFrom_2 rfl (lv_at hl 2 rfl) ?_
  refine xcvR (As := [.ref (ad 10 m1), .int (nI y1)]) (rest := []) (v := some (.long (fX7_advanceOf τ m1 y1))) ⟨hx, hb, hml, hown, hts⟩ (mX7_advanceOf l lo D E h Pr τ ad fa hR hW m1 y1 (show m1 < cN τ 0 by first | assumption | omega) (by first | assumption | omega)) (cwV 2 hts gX7_releaseFrom_X7_advanceOf rfl rfl rfl (by decide +kernel) ⟨Nat.le_of_ble_eq_true rfl, Nat.le_of_ble_eq_true rfl⟩) I hR.f0 rfl rfl hl.1 rfl (Nat.le_of_ble_eq_true rfl) dX7_releaseFrom_3 ⟨Nat.le_of_ble_eq_true rfl, Nat.le_of_ble_eq_true rfl⟩ ?_
  refine W.eq (g2 := F0 m 6 ls [.long (fX7_advanceOf τ m1 y1)]) rfl ?_
  refine lv_iload_n hx hb dX7_releaseFrom_6 rfl (lv_at hl 3 rfl) ?_
  refine lv_i2l (v := x1.toInt64) hx hb dX7_releaseFrom_7 rfl ?_
  refine lv_lmul hx hb dX7_releaseFrom_8 ?_
  refine lv_ldc2 (v := (100 : Int64)) hx hb hown (hts _ (List.mem_of_getElem? (i := 1) rfl)) dX7_releaseFrom_9 ?_
  refine lv_ldiv hx hb dX7_releaseFrom_12 (by decide) ?_
  refine lv_lstore (lv' := [(4, .long (((fX7_advanceOf τ m1 y1) * x1.toInt64) / (100 : Int64))), (0, .ref (ad 0 0)), (1, .ref (ad 10 m1)), (2, .int (nI y1)), (3, .int x1)]) hx hb dX7_releaseFrom_13 hl (by decide) rfl (fun ls hl => ?_)
  refine lv_aload_n hx hb dX7_releaseFrom_15 rfl (lv_at hl 2 rfl) ?_
  refine xget (C := RX3) (T := TX3) (N := 5) 2 hx hb hts hin3 hown I (hR.f10 (show m1 < cN τ 0 by first | assumption | omega)) rfl (by decide) (List.mem_of_getElem? (i := 2) rfl) rfl rfl dX7_releaseFrom_16 ?_
  refine lv_iload_n hx hb dX7_releaseFrom_19 rfl (lv_at hl 3 rfl) ?_
  refine lv_aload_n hx hb dX7_releaseFrom_20 rfl (lv_at hl 1 rfl) ?_
  refine lv_aload_n hx hb dX7_releaseFrom_21 rfl (lv_at hl 2 rfl) ?_
  refine lv_iload_n hx hb dX7_releaseFrom_22 rfl (lv_at hl 3 rfl) ?_
  refine xcvR (As := [.ref (ad 10 m1), .int (nI y1)]) (rest := [.int (nI y1), .ref (ad 13 m1)]) (v := some (.long (fX7_dueOf τ m1 y1))) ⟨hx, hb, hml, hown, hts⟩ (mX7_dueOf l lo D E h Pr τ ad fa hR hW m1 y1 (show m1 < cN τ 0 by first | assumption | omega) (by first | assumption | omega)) (cwV 2 hts gX7_releaseFrom_X7_dueOf rfl rfl rfl (by decide +kernel) ⟨Nat.le_of_ble_eq_true rfl, Nat.le_of_ble_eq_true rfl⟩) I hR.f0 rfl rfl hl.1 rfl (Nat.le_of_ble_eq_true rfl) dX7_releaseFrom_23 ⟨Nat.le_of_ble_eq_true rfl, Nat.le_of_ble_eq_true rfl⟩ ?_
  refine W.eq (g2 := F0 m 26 ls [.long (fX7_dueOf τ m1 y1), .int (nI y1), .ref (ad 13 m1)]) rfl ?_
  refine lv_lload hx hb dX7_releaseFrom_26 (lv_at hl 0 rfl) ?_
  refine lv_ladd hx hb dX7_releaseFrom_28 ?_
  refine xlC (i := y1) (n := 20) hx hb I hS hF (hR.f13 (show m1 < cN τ 0 by first | assumption | omega)) (by omega) (by decide) (hR.a13 (show m1 < cN τ 0 by first | assumption | omega) y1 ((fX7_dueOf τ m1 y1) + (((fX7_advanceOf τ m1 y1) * x1.toInt64) / (100 : Int64)))) (hR.2.2.1 13 m1 (show m1 < cN τ 0 by first | assumption | omega)) dX7_releaseFrom_29 (fun H locs hw I hR hF hS => ?_)
  have hR : RC E Pr (cSD τ m1 y1 ((fX7_dueOf τ m1 y1) + (((fX7_advanceOf τ m1 y1) * x1.toInt64) / (100 : Int64)))) ad fa hw := hR
  have hW : CW (cSD τ m1 y1 ((fX7_dueOf τ m1 y1) + (((fX7_advanceOf τ m1 y1) * x1.toInt64) / (100 : Int64)))) := hW.sD m1 y1 ((fX7_dueOf τ m1 y1) + (((fX7_advanceOf τ m1 y1) * x1.toInt64) / (100 : Int64)))
  refine lv_aload_n hx hb dX7_releaseFrom_30 rfl (lv_at hl 2 rfl) ?_
  refine xget (C := RX3) (T := TX3) (N := 5) 1 hx hb hts hin3 hown I (hR.f10 (show m1 < cN τ 0 by first | assumption | omega)) rfl (by decide) (List.mem_of_getElem? (i := 3) rfl) rfl rfl dX7_releaseFrom_31 ?_
  refine lv_iload_n hx hb dX7_releaseFrom_34 rfl (lv_at hl 3 rfl) ?_
  refine lv_iconst (v := (nI 1)) hx hb dX7_releaseFrom_35 (by decide) ?_
  refine xzC (i := y1) (n := 20) hx hb I hS hF (hR.f12 (show m1 < cN τ 0 by first | assumption | omega)) (by omega) (by decide) (hR.a12 (show m1 < cN τ 0 by first | assumption | omega) y1 (vp_nar .boolean (nI 1))) (hR.2.2.1 12 m1 (show m1 < cN τ 0 by first | assumption | omega)) dX7_releaseFrom_36 (fun H locs hw I hR hF hS => ?_)
  have hR : RC E Pr (cSM (cSD τ m1 y1 ((fX7_dueOf τ m1 y1) + (((fX7_advanceOf τ m1 y1) * x1.toInt64) / (100 : Int64)))) 1 m1 y1 (nI 1)) ad fa hw := hR
  have hW : CW (cSM (cSD τ m1 y1 ((fX7_dueOf τ m1 y1) + (((fX7_advanceOf τ m1 y1) * x1.toInt64) / (100 : Int64)))) 1 m1 y1 (nI 1)) := hW.sM1 m1 y1 (Or.inr rfl)
  subst hG
  exact W.widen (Nat.le_of_ble_eq_true rfl) (Nat.le_of_ble_eq_true rfl) (xrvQ hx hb hr hlocks dX7_releaseFrom_37 I hS ⟨rfl, hR, hF, hW⟩)

def fX7_shareOneEach_S6 (τ : CT) (y1 : Nat) (x1 : Int64) (k6 : Nat) (a6_4 : Int64) (τ6 : CT) : ((Int64 × CT) ⊕ CT) := (if a6_4 ≤ (0 : Int64) then (Sum.inr τ6) else (Sum.inl ((if (fX7_isShared τ6 k6 y1) = 0 then a6_4 else (a6_4 - (1 : Int64))), (if (fX7_isShared τ6 k6 y1) = 0 then τ6 else (cSD τ6 k6 y1 ((cD τ6 k6 y1) + (1 : Int64)))))))
def fX7_shareOneEach_L6 (τ : CT) (y1 : Nat) (x1 : Int64) : Nat → Nat → Int64 → CT → CT
  | 0, k6, a6_4, τ6 => τ6
  | n6 + 1, k6, a6_4, τ6 => lbind (fX7_shareOneEach_S6 τ y1 x1 k6 a6_4 τ6) (fun q => fX7_shareOneEach_L6 τ y1 x1 n6 (k6 + 1) q.1 q.2)
def fX7_shareOneEach (τ : CT) (y1 : Nat) (x1 : Int64) : CT := (fX7_shareOneEach_L6 τ y1 x1 (cN τ 0) 0 x1 τ)
set_option maxHeartbeats 4000000 in
set_option maxRecDepth 100000 in
theorem mX7_shareOneEach (l : Launch) (lo : Nat) (D : va_G) (E : Nat → ClassId) (h : XW) (Pr : Nat → Prop) (τ : CT) (ad : Nat → Nat → Nat) (fa : Nat → Nat → Option Nat) (hR : RC E Pr τ ad fa h) (hW : CW τ) (y1 : Nat) (x1 : Int64) (hy : y1 < 20) : Met l yX7_shareOneEach wsX7_shareOneEach ({ frames := 4, cells := 0, slots := 0, locals := 97 } : Room) (xP lo D E h [.ref (ad 0 0), .int (nI y1), .long x1]) (xQ lo D (fun v h' => v = none ∧ RC E Pr (((fX7_shareOneEach τ y1 x1))) ad fa h' ∧ cF Pr h h' ∧ CW ((fX7_shareOneEach τ y1 x1)))) 0 0 (xA lo) := by
  obtain ⟨G, hG⟩ : ∃ G, fX7_shareOneEach τ y1 x1 = G := ⟨_, rfl⟩
  rw [hG]
  unfold fX7_shareOneEach at hG
  refine Met.ofW (cc := cX7_shareOneEach) (maxL := 7) (ret := none) (by decide) rfl ?_
  intro p e s m args below meth c s₁ B hml hv
  obtain ⟨rfl, I⟩ := hv
  have hx := B.exec
  have hb := B.bytes
  have hr := B.returns
  have hts := atoms_spec (ws := wsX7_shareOneEach) B.pre
  have hown : s.vm.findClass RX7 = some m.cls := findClass_of_methodNamed B.named
  have hlocks := B.notSynchronized
  have hl := lv_entry ([.ref (ad 0 0), .int (nI y1), .long x1] : List Value) (n := 7) (Nat.le_of_ble_eq_true rfl)
  rw [lg_entry_eq]
  generalize (lg_sl ([.ref (ad 0 0), .int (nI y1), .long x1] : List Value) ++ List.replicate (7 - (lg_sl ([.ref (ad 0 0), .int (nI y1), .long x1] : List Value)).length) Slot.unset).toArray = ls at hl ⊢
  have hl : lv_has ls 7 [(0, .ref (ad 0 0)), (1, .int (nI y1)), (2, .long x1)] := hl
  have hin7 : ∀ w ∈ u_ws RX7 TX7 14, w ∈ wsX7_shareOneEach := fun _ h => List.mem_cons_of_mem _ (List.mem_append_left _ (List.mem_append_left _ (List.mem_append_left _ (List.mem_append_right _ (h)))))
  have hin3 : ∀ w ∈ u_ws RX3 TX3 5, w ∈ wsX7_shareOneEach := fun _ h => List.mem_cons_of_mem _ (List.mem_append_left _ (List.mem_append_left _ (List.mem_append_right _ (h))))
  have hin5 : ∀ w ∈ u_ws RX5 TX5 4, w ∈ wsX7_shareOneEach := fun _ h => List.mem_cons_of_mem _ (List.mem_append_right _ (h))
  have hin1 : ∀ w ∈ u_ws RX1 TX1 3, w ∈ wsX7_shareOneEach := fun _ h => List.mem_cons_of_mem _ (List.mem_append_left _ (List.mem_append_right _ (h)))
  have hW0 := hW
  obtain ⟨w0, -⟩ := id hW
  have hS : va_S (xA lo) s.heap s.heap [] := va_S.rf
  have hT0 : XT lo s s.heap := I.2.2.2.2
  have hF : cF Pr h h := cF.rf
  refine lv_lload_n hx hb dX7_shareOneEach_0 rfl (lv_at hl 2 rfl) ?_
  refine lv_lstore (lv' := [(4, .long x1), (0, .ref (ad 0 0)), (1, .int (nI y1)), (2, .long x1)]) hx hb dX7_shareOneEach_1 hl (by decide) rfl (fun ls hl => ?_)
  refine lv_iconst (v := (nI 0)) hx hb dX7_shareOneEach_3 (by decide) ?_
  refine lv_istore (lv' := [(6, .int (nI 0)), (4, .long x1), (0, .ref (ad 0 0)), (1, .int (nI y1)), (2, .long x1)]) hx hb dX7_shareOneEach_4 hl (by decide) rfl (fun ls hl => ?_)
  have L6 : ∀ (n6 : Nat) (k6 : Nat) (a6_4 : Int64) (τ6 : CT), k6 + n6 = cN τ6 0 → ∀ (H : Heap) (locs : List Loc) (hw : XW), XI lo D E hw s H → RC E Pr τ6 ad fa hw → cF Pr h hw → va_S (xA lo) s.heap H locs → CW τ6 → fX7_shareOneEach_L6 τ y1 x1 n6 k6 a6_4 τ6 = G → ∀ ls : Array Slot, lv_has ls 7 [(0, .ref (ad 0 0)), (1, .int (nI y1)), (4, .long a6_4), (6, .int (nI k6))] → W p l e (headSpec wsX7_shareOneEach ({ frames := 4, cells := 0, slots := 0, locals := 97 } : Room)).room s m ([.ref (ad 0 0), .int (nI y1), .long x1] : List Value).toArray below meth c H locs 0 0 (MQ below (xQ lo D (fun v h' => v = none ∧ RC E Pr ((G)) ad fa h' ∧ cF Pr h h' ∧ CW (G))) ([.ref (ad 0 0), .int (nI y1), .long x1] : List Value).toArray s 0 0 (xA lo)) (F0 m 6 ls []) := by
    intro n6
    induction n6 with
    | zero =>
      intro k6 a6_4 τ6 hkn H locs hw I hR hF hS hW hG ls hl
      have hkN : k6 = cN τ6 0 := by omega
      have wf6 := hW.1
      have hG : τ6 = G := hG
      refine lv_iload hx hb dX7_shareOneEach_6 (lv_at hl 3 rfl) ?_
      refine lv_aload_n hx hb dX7_shareOneEach_8 rfl (lv_at hl 0 rfl) ?_
      refine xget (C := RX7) (T := TX7) (N := 14) 7 hx hb hts hin7 hown I hR.f0 rfl (by decide) (List.mem_of_getElem? (i := 1) rfl) rfl rfl dX7_shareOneEach_9 ?_
      refine lv_icmp_ge (tgt := 65) hx hb dX7_shareOneEach_12 (by decide) (fun _ => ?_) (fun q => absurd (nI_le (Nat.le_of_eq hkN.symm) (by omega)) q)
      subst hG
      exact W.widen (Nat.le_of_ble_eq_true rfl) (Nat.le_of_ble_eq_true rfl) (xrvQ hx hb hr hlocks dX7_shareOneEach_65 I hS ⟨rfl, hR, hF, hW⟩)
    | succ n6 ih =>
      intro k6 a6_4 τ6 hkn H locs hw I hR hF hS hW hG ls hl
      have hk : k6 < cN τ6 0 := by omega
      have wf6 := hW.1
      have hG : lbind ((if a6_4 ≤ (0 : Int64) then (Sum.inr τ6) else (Sum.inl ((if (fX7_isShared τ6 k6 y1) = 0 then a6_4 else (a6_4 - (1 : Int64))), (if (fX7_isShared τ6 k6 y1) = 0 then τ6 else (cSD τ6 k6 y1 ((cD τ6 k6 y1) + (1 : Int64)))))))) (fun q => fX7_shareOneEach_L6 τ y1 x1 n6 (k6 + 1) q.1 q.2) = G := hG
      refine lv_iload hx hb dX7_shareOneEach_6 (lv_at hl 3 rfl) ?_
      refine lv_aload_n hx hb dX7_shareOneEach_8 rfl (lv_at hl 0 rfl) ?_
      refine xget (C := RX7) (T := TX7) (N := 14) 7 hx hb hts hin7 hown I hR.f0 rfl (by decide) (List.mem_of_getElem? (i := 1) rfl) rfl rfl dX7_shareOneEach_9 ?_
      refine lv_icmp_ge (tgt := 65) hx hb dX7_shareOneEach_12 (by decide) (fun q => absurd q (nI_ge hk (by omega))) (fun _ => ?_)
      refine lv_lload hx hb dX7_shareOneEach_15 (lv_at hl 2 rfl) ?_
      refine lv_lconst (v := (0 : Int64)) hx hb dX7_shareOneEach_17 rfl ?_
      refine xl_le (tgt := 65) hx hb dX7_shareOneEach_18 dX7_shareOneEach_19 (by decide) (fun c_18 => ?_) (fun c_18 => ?_)
      · skip
        rw [if_pos c_18] at hG
        subst hG
        exact W.widen (Nat.le_of_ble_eq_true rfl) (Nat.le_of_ble_eq_true rfl) (xrvQ hx hb hr hlocks dX7_shareOneEach_65 I hS ⟨rfl, hR, hF, hW⟩)
      · skip
        rw [if_neg c_18] at hG
        refine lv_aload_n hx hb dX7_shareOneEach_22 rfl (lv_at hl 0 rfl) ?_
        refine lv_aload_n hx hb dX7_shareOneEach_23 rfl (lv_at hl 0 rfl) ?_
        refine xget (C := RX7) (T := TX7) (N := 14) 0 hx hb hts hin7 hown I hR.f0 rfl (by decide) (List.mem_of_getElem? (i := 2) rfl) rfl rfl dX7_shareOneEach_24 ?_
        refine lv_iload hx hb dX7_shareOneEach_27 (lv_at hl 3 rfl) ?_
        refine xaald (i := k6) (n := 12) 3 hx hb I rfl hR.f1 (by omega) (by decide) (hR.2.2.2.2.1 k6 (show k6 < cN τ6 0 by first | assumption | omega)) dX7_shareOneEach_29 ?_
        refine W.eq (g2 := F0 m 30 ls [.ref (ad 10 k6), .ref (ad 0 0)]) rfl ?_
        refine lv_iload_n hx hb dX7_shareOneEach_30 rfl (lv_at hl 1 rfl) ?_
        refine xcvR (As := [.ref (ad 10 k6), .int (nI y1)]) (rest := []) (v := some (.int (fX7_isShared τ6 k6 y1))) ⟨hx, hb, hml, hown, hts⟩ (mX7_isShared l lo D E hw Pr τ6 ad fa hR hW k6 y1 (show k6 < cN τ6 0 by first | assumption | omega) (by first | assumption | omega)) (cwV 2 hts gX7_shareOneEach_X7_isShared rfl rfl rfl (by decide +kernel) ⟨Nat.le_of_ble_eq_true rfl, Nat.le_of_ble_eq_true rfl⟩) I hR.f0 rfl rfl hl.1 rfl (Nat.le_of_ble_eq_true rfl) dX7_shareOneEach_31 ⟨Nat.le_of_ble_eq_true rfl, Nat.le_of_ble_eq_true rfl⟩ ?_
        refine W.eq (g2 := F0 m 34 ls [.int (fX7_isShared τ6 k6 y1)]) rfl ?_
        refine lv_if_eq (tgt := 59) hx hb dX7_shareOneEach_34 (by decide) (fun c_34 => ?_) (fun c_34 => ?_)
        · skip
          rw [if_pos c_34] at hG; rw [if_pos c_34] at hG
          refine lv_iinc (v := (nI (k6 + 1))) (lv' := [(6, .int (nI (k6 + 1))), (0, .ref (ad 0 0)), (1, .int (nI y1)), (4, .long a6_4)]) hx hb dX7_shareOneEach_59 hl (k := 3) rfl (nI_succ k6).symm (by decide) rfl (fun ls hl => ?_)
          refine lv_goto (tgt := 6) hx hb dX7_shareOneEach_62 (by decide) ?_
          exact ih (k6 + 1) a6_4 τ6 (by first | omega | (simp only [cSI_N, cSL_N, cSM_N, cSD_N]; omega)) H locs hw I hR hF hS hW hG ls (lv_sub hl [1, 2, 3, 0] rfl)
        · skip
          rw [if_neg c_34] at hG; rw [if_neg c_34] at hG
          refine lv_aload_n hx hb dX7_shareOneEach_37 rfl (lv_at hl 0 rfl) ?_
          refine xget (C := RX7) (T := TX7) (N := 14) 0 hx hb hts hin7 hown I hR.f0 rfl (by decide) (List.mem_of_getElem? (i := 2) rfl) rfl rfl dX7_shareOneEach_38 ?_
          refine lv_iload hx hb dX7_shareOneEach_41 (lv_at hl 3 rfl) ?_
          refine xaald (i := k6) (n := 12) 3 hx hb I rfl hR.f1 (by omega) (by decide) (hR.2.2.2.2.1 k6 (show k6 < cN τ6 0 by first | assumption | omega)) dX7_shareOneEach_43 ?_
          refine W.eq (g2 := F0 m 44 ls [.ref (ad 10 k6)]) rfl ?_
          refine xget (C := RX3) (T := TX3) (N := 5) 2 hx hb hts hin3 hown I (hR.f10 (show k6 < cN τ6 0 by first | assumption | omega)) rfl (by decide) (List.mem_of_getElem? (i := 3) rfl) rfl rfl dX7_shareOneEach_44 ?_
          refine lv_iload_n hx hb dX7_shareOneEach_47 rfl (lv_at hl 1 rfl) ?_
          refine lv_dup2_11 hx hb dX7_shareOneEach_48 rfl rfl ?_
          refine xlald (i := y1) (n := 20) hx hb I (hR.f13 (show k6 < cN τ6 0 by first | assumption | omega)) (by omega) (by decide) dX7_shareOneEach_49 ?_
          refine lv_lconst (v := (1 : Int64)) hx hb dX7_shareOneEach_50 rfl ?_
          refine lv_ladd hx hb dX7_shareOneEach_51 ?_
          refine xlC (i := y1) (n := 20) hx hb I hS hF (hR.f13 (show k6 < cN τ6 0 by first | assumption | omega)) (by omega) (by decide) (hR.a13 (show k6 < cN τ6 0 by first | assumption | omega) y1 ((cD τ6 k6 y1) + (1 : Int64))) (hR.2.2.1 13 k6 (show k6 < cN τ6 0 by first | assumption | omega)) dX7_shareOneEach_52 (fun H locs hw I hR hF hS => ?_)
          have hR : RC E Pr (cSD τ6 k6 y1 ((cD τ6 k6 y1) + (1 : Int64))) ad fa hw := hR
          have hW : CW (cSD τ6 k6 y1 ((cD τ6 k6 y1) + (1 : Int64))) := hW.sD k6 y1 ((cD τ6 k6 y1) + (1 : Int64))
          refine lv_lload hx hb dX7_shareOneEach_53 (lv_at hl 2 rfl) ?_
          refine lv_lconst (v := (1 : Int64)) hx hb dX7_shareOneEach_55 rfl ?_
          refine lv_lsub hx hb dX7_shareOneEach_56 ?_
          refine lv_lstore (lv' := [(4, .long (a6_4 - (1 : Int64))), (0, .ref (ad 0 0)), (1, .int (nI y1)), (6, .int (nI k6))]) hx hb dX7_shareOneEach_57 hl (by decide) rfl (fun ls hl => ?_)
          refine lv_iinc (v := (nI (k6 + 1))) (lv' := [(6, .int (nI (k6 + 1))), (4, .long (a6_4 - (1 : Int64))), (0, .ref (ad 0 0)), (1, .int (nI y1))]) hx hb dX7_shareOneEach_59 hl (k := 3) rfl (nI_succ k6).symm (by decide) rfl (fun ls hl => ?_)
          refine lv_goto (tgt := 6) hx hb dX7_shareOneEach_62 (by decide) ?_
          exact ih (k6 + 1) (a6_4 - (1 : Int64)) (cSD τ6 k6 y1 ((cD τ6 k6 y1) + (1 : Int64))) (by first | omega | (simp only [cSI_N, cSL_N, cSM_N, cSD_N]; omega)) H locs hw I hR hF hS hW hG ls (lv_sub hl [2, 3, 1, 0] rfl)
  exact L6 (cN τ 0) 0 x1 τ (by omega) s.heap [] h I hR hF hS hW hG ls (lv_sub hl [2, 3, 1, 0] rfl)

def fX7_share_S77 (τ : CT) (y1 : Nat) (x1 : Int64) (a6_4 : Int64) (k77 : Nat) (a77_6 : Int64) (τ77 : CT) : (Int64 × CT) := ((if (fX7_isShared τ77 k77 y1) = 0 then a77_6 else (a77_6 - (fJ9_floorDiv_f86c9 (x1 * (fX7_weightIn τ77 k77 y1)) a6_4))), (if (fX7_isShared τ77 k77 y1) = 0 then τ77 else (cSD τ77 k77 y1 (fJ9_floorDiv_f86c9 (x1 * (fX7_weightIn τ77 k77 y1)) a6_4))))
def fX7_share_L77 (τ : CT) (y1 : Nat) (x1 : Int64) (a6_4 : Int64) : Nat → Nat → Int64 → CT → CT
  | 0, k77, a77_6, τ77 => (fX7_shareOneEach τ77 y1 a77_6)
  | n77 + 1, k77, a77_6, τ77 => lseq (fX7_share_S77 τ y1 x1 a6_4 k77 a77_6 τ77) (fun q => fX7_share_L77 τ y1 x1 a6_4 n77 (k77 + 1) q.1 q.2)
def fX7_share_S6 (τ : CT) (y1 : Nat) (x1 : Int64) (k6 : Nat) (a6_4 : Int64) : (Int64) := (if (fX7_isShared τ k6 y1) = 0 then a6_4 else (a6_4 + (fX7_weightIn τ k6 y1)))
def fX7_share_L6 (τ : CT) (y1 : Nat) (x1 : Int64) : Nat → Nat → Int64 → CT
  | 0, k6, a6_4 => (if (0 : Int64) < a6_4 then (fX7_share_L77 τ y1 x1 a6_4 (cN τ 0) 0 x1 τ) else (cSL τ 0 0 ((cL τ 0 0) - x1)))
  | n6 + 1, k6, a6_4 => lseq (fX7_share_S6 τ y1 x1 k6 a6_4) (fun q => fX7_share_L6 τ y1 x1 n6 (k6 + 1) q)
def fX7_share (τ : CT) (y1 : Nat) (x1 : Int64) : CT := (fX7_share_L6 τ y1 x1 (cN τ 0) 0 (0 : Int64))
set_option maxHeartbeats 4000000 in
set_option maxRecDepth 100000 in
theorem mX7_share (l : Launch) (lo : Nat) (D : va_G) (E : Nat → ClassId) (h : XW) (Pr : Nat → Prop) (τ : CT) (ad : Nat → Nat → Nat) (fa : Nat → Nat → Option Nat) (hR : RC E Pr τ ad fa h) (hW : CW τ) (y1 : Nat) (x1 : Int64) (hy : y1 < 20) : Met l yX7_share wsX7_share ({ frames := 5, cells := 0, slots := 0, locals := 123 } : Room) (xP lo D E h [.ref (ad 0 0), .int (nI y1), .long x1]) (xQ lo D (fun v h' => v = none ∧ RC E Pr (((fX7_share τ y1 x1))) ad fa h' ∧ cF Pr h h' ∧ CW ((fX7_share τ y1 x1)))) 0 0 (xA lo) := by
  obtain ⟨G, hG⟩ : ∃ G, fX7_share τ y1 x1 = G := ⟨_, rfl⟩
  rw [hG]
  unfold fX7_share at hG
  refine Met.ofW (cc := cX7_share) (maxL := 11) (ret := none) (by decide) rfl ?_
  intro p e s m args below meth c s₁ B hml hv
  obtain ⟨rfl, I⟩ := hv
  have hx := B.exec
  have hb := B.bytes
  have hr := B.returns
  have hts := atoms_spec (ws := wsX7_share) B.pre
  have hown : s.vm.findClass RX7 = some m.cls := findClass_of_methodNamed B.named
  have hlocks := B.notSynchronized
  have hl := lv_entry ([.ref (ad 0 0), .int (nI y1), .long x1] : List Value) (n := 11) (Nat.le_of_ble_eq_true rfl)
  rw [lg_entry_eq]
  generalize (lg_sl ([.ref (ad 0 0), .int (nI y1), .long x1] : List Value) ++ List.replicate (11 - (lg_sl ([.ref (ad 0 0), .int (nI y1), .long x1] : List Value)).length) Slot.unset).toArray = ls at hl ⊢
  have hl : lv_has ls 11 [(0, .ref (ad 0 0)), (1, .int (nI y1)), (2, .long x1)] := hl
  have hin7 : ∀ w ∈ u_ws RX7 TX7 14, w ∈ wsX7_share := fun _ h => List.mem_cons_of_mem _ (List.mem_append_left _ (List.mem_append_left _ (List.mem_append_left _ (List.mem_append_right _ (h)))))
  have hin3 : ∀ w ∈ u_ws RX3 TX3 5, w ∈ wsX7_share := fun _ h => List.mem_cons_of_mem _ (List.mem_append_left _ (List.mem_append_left _ (List.mem_append_right _ (h))))
  have hin5 : ∀ w ∈ u_ws RX5 TX5 4, w ∈ wsX7_share := fun _ h => List.mem_cons_of_mem _ (List.mem_append_right _ (h))
  have hin1 : ∀ w ∈ u_ws RX1 TX1 3, w ∈ wsX7_share := fun _ h => List.mem_cons_of_mem _ (List.mem_append_left _ (List.mem_append_right _ (h)))
  have hW0 := hW
  obtain ⟨w0, -⟩ := id hW
  have hS : va_S (xA lo) s.heap s.heap [] := va_S.rf
  have hT0 : XT lo s s.heap := I.2.2.2.2
  have hF : cF Pr h h := cF.rf
  refine lv_lconst (v := (0 : Int64)) hx hb dX7_share_0 rfl ?_
  refine lv_lstore (lv' := [(4, .long (0 : Int64)), (0, .ref (ad 0 0)), (1, .int (nI y1)), (2, .long x1)]) hx hb dX7_share_1 hl (by decide) rfl (fun ls hl => ?_)
  refine lv_iconst (v := (nI 0)) hx hb dX7_share_3 (by decide) ?_
  refine lv_istore (lv' := [(6, .int (nI 0)), (4, .long (0 : Int64)), (0, .ref (ad 0 0)), (1, .int (nI y1)), (2, .long x1)]) hx hb dX7_share_4 hl (by decide) rfl (fun ls hl => ?_)
  have L6 : ∀ (n6 : Nat) (k6 : Nat) (a6_4 : Int64), k6 + n6 = cN τ 0 → fX7_share_L6 τ y1 x1 n6 k6 a6_4 = G → ∀ ls : Array Slot, lv_has ls 11 [(0, .ref (ad 0 0)), (1, .int (nI y1)), (2, .long x1), (4, .long a6_4), (6, .int (nI k6))] → W p l e (headSpec wsX7_share ({ frames := 5, cells := 0, slots := 0, locals := 123 } : Room)).room s m ([.ref (ad 0 0), .int (nI y1), .long x1] : List Value).toArray below meth c s.heap [] 0 0 (MQ below (xQ lo D (fun v h' => v = none ∧ RC E Pr ((G)) ad fa h' ∧ cF Pr h h' ∧ CW (G))) ([.ref (ad 0 0), .int (nI y1), .long x1] : List Value).toArray s 0 0 (xA lo)) (F0 m 6 ls []) := by
    intro n6
    induction n6 with
    | zero =>
      intro k6 a6_4 hkn hG ls hl
      have hkN : k6 = cN τ 0 := by omega
      have hG : (if (0 : Int64) < a6_4 then (fX7_share_L77 τ y1 x1 a6_4 (cN τ 0) 0 x1 τ) else (cSL τ 0 0 ((cL τ 0 0) - x1))) = G := hG
      refine lv_iload hx hb dX7_share_6 (lv_at hl 4 rfl) ?_
      refine lv_aload_n hx hb dX7_share_8 rfl (lv_at hl 0 rfl) ?_
      refine xget (C := RX7) (T := TX7) (N := 14) 7 hx hb hts hin7 hown I hR.f0 rfl (by decide) (List.mem_of_getElem? (i := 1) rfl) rfl rfl dX7_share_9 ?_
      refine lv_icmp_ge (tgt := 53) hx hb dX7_share_12 (by decide) (fun _ => ?_) (fun q => absurd (nI_le (Nat.le_of_eq hkN.symm) (by omega)) q)
      refine lv_lload hx hb dX7_share_53 (lv_at hl 3 rfl) ?_
      refine lv_lconst (v := (0 : Int64)) hx hb dX7_share_55 rfl ?_
      refine xl_gt (tgt := 71) hx hb dX7_share_56 dX7_share_57 (by decide) (fun c_56 => ?_) (fun c_56 => ?_)
      · skip
        rw [if_pos c_56] at hG
        refine lv_lload_n hx hb dX7_share_71 rfl (lv_at hl 2 rfl) ?_
        refine lv_lstore (lv' := [(6, .long x1), (0, .ref (ad 0 0)), (1, .int (nI y1)), (2, .long x1), (4, .long a6_4)]) hx hb dX7_share_72 hl (by decide) rfl (fun ls hl => ?_)
        refine lv_iconst (v := (nI 0)) hx hb dX7_share_74 (by decide) ?_
        refine lv_istore (lv' := [(8, .int (nI 0)), (6, .long x1), (0, .ref (ad 0 0)), (1, .int (nI y1)), (2, .long x1), (4, .long a6_4)]) hx hb dX7_share_75 hl (by decide) rfl (fun ls hl => ?_)
        have L77 : ∀ (n77 : Nat) (k77 : Nat) (a77_6 : Int64) (τ77 : CT), k77 + n77 = cN τ77 0 → ∀ (H : Heap) (locs : List Loc) (hw : XW), XI lo D E hw s H → RC E Pr τ77 ad fa hw → cF Pr h hw → va_S (xA lo) s.heap H locs → CW τ77 → fX7_share_L77 τ y1 x1 a6_4 n77 k77 a77_6 τ77 = G → ∀ ls : Array Slot, lv_has ls 11 [(0, .ref (ad 0 0)), (1, .int (nI y1)), (2, .long x1), (4, .long a6_4), (6, .long a77_6), (8, .int (nI k77))] → W p l e (headSpec wsX7_share ({ frames := 5, cells := 0, slots := 0, locals := 123 } : Room)).room s m ([.ref (ad 0 0), .int (nI y1), .long x1] : List Value).toArray below meth c H locs 0 0 (MQ below (xQ lo D (fun v h' => v = none ∧ RC E Pr ((G)) ad fa h' ∧ cF Pr h h' ∧ CW (G))) ([.ref (ad 0 0), .int (nI y1), .long x1] : List Value).toArray s 0 0 (xA lo)) (F0 m 77 ls []) := by
          intro n77
          induction n77 with
          | zero =>
            intro k77 a77_6 τ77 hkn H locs hw I hR hF hS hW hG ls hl
            have hkN : k77 = cN τ77 0 := by omega
            have wf77 := hW.1
            have hG : (fX7_shareOneEach τ77 y1 a77_6) = G := hG
            refine lv_iload hx hb dX7_share_77 (lv_at hl 5 rfl) ?_
            refine lv_aload_n hx hb dX7_share_79 rfl (lv_at hl 0 rfl) ?_
            refine xget (C := RX7) (T := TX7) (N := 14) 7 hx hb hts hin7 hown I hR.f0 rfl (by decide) (List.mem_of_getElem? (i := 1) rfl) rfl rfl dX7_share_80 ?_
            refine lv_icmp_ge (tgt := 149) hx hb dX7_share_83 (by decide) (fun _ => ?_) (fun q => absurd (nI_le (Nat.le_of_eq hkN.symm) (by omega)) q)
            refine lv_aload_n hx hb dX7_share_149 rfl (lv_at hl 0 rfl) ?_
            refine lv_iload_n hx hb dX7_share_150 rfl (lv_at hl 1 rfl) ?_
            refine lv_lload hx hb dX7_share_151 (lv_at hl 4 rfl) ?_
            refine xcvQ (As := [.int (nI y1), .long a77_6]) (rest := []) ⟨hx, hb, hml, hown, hts⟩ (mX7_shareOneEach l lo D E hw Pr τ77 ad fa hR hW y1 a77_6 (by first | assumption | omega)) (cwV 2 hts gX7_share_X7_shareOneEach rfl rfl rfl (by decide +kernel) ⟨Nat.le_of_ble_eq_true rfl, Nat.le_of_ble_eq_true rfl⟩) I hS hR.f0 rfl rfl hl.1 rfl (Nat.le_of_ble_eq_true rfl) dX7_share_153 ⟨Nat.le_of_ble_eq_true rfl, Nat.le_of_ble_eq_true rfl⟩ (fun v9 hw H locs q9 I hS => ?_)
            obtain ⟨q1, hR, hF9, hW⟩ := q9
            subst q1
            have hF := cF.tr hF hF9
            refine W.eq (g2 := F0 m 156 ls []) rfl ?_
            subst hG
            exact W.widen (Nat.le_of_ble_eq_true rfl) (Nat.le_of_ble_eq_true rfl) (xrvQ hx hb hr hlocks dX7_share_156 I hS ⟨rfl, hR, hF, hW⟩)
          | succ n77 ih =>
            intro k77 a77_6 τ77 hkn H locs hw I hR hF hS hW hG ls hl
            have hk : k77 < cN τ77 0 := by omega
            have wf77 := hW.1
            have hG : lseq (((if (fX7_isShared τ77 k77 y1) = 0 then a77_6 else (a77_6 - (fJ9_floorDiv_f86c9 (x1 * (fX7_weightIn τ77 k77 y1)) a6_4))), (if (fX7_isShared τ77 k77 y1) = 0 then τ77 else (cSD τ77 k77 y1 (fJ9_floorDiv_f86c9 (x1 * (fX7_weightIn τ77 k77 y1)) a6_4))))) (fun q => fX7_share_L77 τ y1 x1 a6_4 n77 (k77 + 1) q.1 q.2) = G := hG
            refine lv_iload hx hb dX7_share_77 (lv_at hl 5 rfl) ?_
            refine lv_aload_n hx hb dX7_share_79 rfl (lv_at hl 0 rfl) ?_
            refine xget (C := RX7) (T := TX7) (N := 14) 7 hx hb hts hin7 hown I hR.f0 rfl (by decide) (List.mem_of_getElem? (i := 1) rfl) rfl rfl dX7_share_80 ?_
            refine lv_icmp_ge (tgt := 149) hx hb dX7_share_83 (by decide) (fun q => absurd q (nI_ge hk (by omega))) (fun _ => ?_)
            refine lv_aload_n hx hb dX7_share_86 rfl (lv_at hl 0 rfl) ?_
            refine lv_aload_n hx hb dX7_share_87 rfl (lv_at hl 0 rfl) ?_
            refine xget (C := RX7) (T := TX7) (N := 14) 0 hx hb hts hin7 hown I hR.f0 rfl (by decide) (List.mem_of_getElem? (i := 2) rfl) rfl rfl dX7_share_88 ?_
            refine lv_iload hx hb dX7_share_91 (lv_at hl 5 rfl) ?_
            refine xaald (i := k77) (n := 12) 3 hx hb I rfl hR.f1 (by omega) (by decide) (hR.2.2.2.2.1 k77 (show k77 < cN τ77 0 by first | assumption | omega)) dX7_share_93 ?_
            refine W.eq (g2 := F0 m 94 ls [.ref (ad 10 k77), .ref (ad 0 0)]) rfl ?_
            refine lv_iload_n hx hb dX7_share_94 rfl (lv_at hl 1 rfl) ?_
            refine xcvR (As := [.ref (ad 10 k77), .int (nI y1)]) (rest := []) (v := some (.int (fX7_isShared τ77 k77 y1))) ⟨hx, hb, hml, hown, hts⟩ (mX7_isShared l lo D E hw Pr τ77 ad fa hR hW k77 y1 (show k77 < cN τ77 0 by first | assumption | omega) (by first | assumption | omega)) (cwV 2 hts gX7_share_X7_isShared rfl rfl rfl (by decide +kernel) ⟨Nat.le_of_ble_eq_true rfl, Nat.le_of_ble_eq_true rfl⟩) I hR.f0 rfl rfl hl.1 rfl (Nat.le_of_ble_eq_true rfl) dX7_share_95 ⟨Nat.le_of_ble_eq_true rfl, Nat.le_of_ble_eq_true rfl⟩ ?_
            refine W.eq (g2 := F0 m 98 ls [.int (fX7_isShared τ77 k77 y1)]) rfl ?_
            refine lv_if_eq (tgt := 143) hx hb dX7_share_98 (by decide) (fun c_98 => ?_) (fun c_98 => ?_)
            · skip
              rw [if_pos c_98] at hG; rw [if_pos c_98] at hG
              refine lv_iinc (v := (nI (k77 + 1))) (lv' := [(8, .int (nI (k77 + 1))), (0, .ref (ad 0 0)), (1, .int (nI y1)), (2, .long x1), (4, .long a6_4), (6, .long a77_6)]) hx hb dX7_share_143 hl (k := 5) rfl (nI_succ k77).symm (by decide) rfl (fun ls hl => ?_)
              refine lv_goto (tgt := 77) hx hb dX7_share_146 (by decide) ?_
              exact ih (k77 + 1) a77_6 τ77 (by first | omega | (simp only [cSI_N, cSL_N, cSM_N, cSD_N]; omega)) H locs hw I hR hF hS hW hG ls (lv_sub hl [1, 2, 3, 4, 5, 0] rfl)
            · skip
              rw [if_neg c_98] at hG; rw [if_neg c_98] at hG
              refine lv_lload_n hx hb dX7_share_101 rfl (lv_at hl 2 rfl) ?_
              refine lv_aload_n hx hb dX7_share_102 rfl (lv_at hl 0 rfl) ?_
              refine lv_aload_n hx hb dX7_share_103 rfl (lv_at hl 0 rfl) ?_
              refine xget (C := RX7) (T := TX7) (N := 14) 0 hx hb hts hin7 hown I hR.f0 rfl (by decide) (List.mem_of_getElem? (i := 2) rfl) rfl rfl dX7_share_104 ?_
              refine lv_iload hx hb dX7_share_107 (lv_at hl 5 rfl) ?_
              refine xaald (i := k77) (n := 12) 3 hx hb I rfl hR.f1 (by omega) (by decide) (hR.2.2.2.2.1 k77 (show k77 < cN τ77 0 by first | assumption | omega)) dX7_share_109 ?_
              refine W.eq (g2 := F0 m 110 ls [.ref (ad 10 k77), .ref (ad 0 0), .long x1]) rfl ?_
              refine lv_iload_n hx hb dX7_share_110 rfl (lv_at hl 1 rfl) ?_
              refine xcvR (As := [.ref (ad 10 k77), .int (nI y1)]) (rest := [.long x1]) (v := some (.long (fX7_weightIn τ77 k77 y1))) ⟨hx, hb, hml, hown, hts⟩ (mX7_weightIn l lo D E hw Pr τ77 ad fa hR hW k77 y1 (show k77 < cN τ77 0 by first | assumption | omega) (by first | assumption | omega)) (cwV 2 hts gX7_share_X7_weightIn rfl rfl rfl (by decide +kernel) ⟨Nat.le_of_ble_eq_true rfl, Nat.le_of_ble_eq_true rfl⟩) I hR.f0 rfl rfl hl.1 rfl (Nat.le_of_ble_eq_true rfl) dX7_share_111 ⟨Nat.le_of_ble_eq_true rfl, Nat.le_of_ble_eq_true rfl⟩ ?_
              refine W.eq (g2 := F0 m 114 ls [.long (fX7_weightIn τ77 k77 y1), .long x1]) rfl ?_
              refine lv_lmul hx hb dX7_share_114 ?_
              refine lv_lload hx hb dX7_share_115 (lv_at hl 3 rfl) ?_
              refine xcsR (As := [.long (x1 * (fX7_weightIn τ77 k77 y1)), .long a6_4]) (rest := []) (v := some (.long (fJ9_floorDiv_f86c9 (x1 * (fX7_weightIn τ77 k77 y1)) a6_4))) ⟨hx, hb, hml, hown, hts⟩ (mJ9_floorDiv_f86c9 l lo D E hw (x1 * (fX7_weightIn τ77 k77 y1)) a6_4 (fun z => by rw [z] at c_56; exact absurd c_56 (by decide))) (va_cwS 2 hts gX7_share_J9_floorDiv_f86c9 rfl rfl rfl (by decide +kernel) ⟨Nat.le_of_ble_eq_true rfl, Nat.le_of_ble_eq_true rfl⟩) I rfl hl.1 rfl (Nat.le_of_ble_eq_true rfl) dX7_share_117 ⟨Nat.le_of_ble_eq_true rfl, Nat.le_of_ble_eq_true rfl⟩ ?_
              refine W.eq (g2 := F0 m 120 ls [.long (fJ9_floorDiv_f86c9 (x1 * (fX7_weightIn τ77 k77 y1)) a6_4)]) rfl ?_
              refine lv_lstore (lv' := [(9, .long (fJ9_floorDiv_f86c9 (x1 * (fX7_weightIn τ77 k77 y1)) a6_4)), (0, .ref (ad 0 0)), (1, .int (nI y1)), (2, .long x1), (4, .long a6_4), (6, .long a77_6), (8, .int (nI k77))]) hx hb dX7_share_120 hl (by decide) rfl (fun ls hl => ?_)
              refine lv_aload_n hx hb dX7_share_122 rfl (lv_at hl 1 rfl) ?_
              refine xget (C := RX7) (T := TX7) (N := 14) 0 hx hb hts hin7 hown I hR.f0 rfl (by decide) (List.mem_of_getElem? (i := 2) rfl) rfl rfl dX7_share_123 ?_
              refine lv_iload hx hb dX7_share_126 (lv_at hl 6 rfl) ?_
              refine xaald (i := k77) (n := 12) 3 hx hb I rfl hR.f1 (by omega) (by decide) (hR.2.2.2.2.1 k77 (show k77 < cN τ77 0 by first | assumption | omega)) dX7_share_128 ?_
              refine W.eq (g2 := F0 m 129 ls [.ref (ad 10 k77)]) rfl ?_
              refine xget (C := RX3) (T := TX3) (N := 5) 2 hx hb hts hin3 hown I (hR.f10 (show k77 < cN τ77 0 by first | assumption | omega)) rfl (by decide) (List.mem_of_getElem? (i := 4) rfl) rfl rfl dX7_share_129 ?_
              refine lv_iload_n hx hb dX7_share_132 rfl (lv_at hl 2 rfl) ?_
              refine lv_lload hx hb dX7_share_133 (lv_at hl 0 rfl) ?_
              refine xlC (i := y1) (n := 20) hx hb I hS hF (hR.f13 (show k77 < cN τ77 0 by first | assumption | omega)) (by omega) (by decide) (hR.a13 (show k77 < cN τ77 0 by first | assumption | omega) y1 (fJ9_floorDiv_f86c9 (x1 * (fX7_weightIn τ77 k77 y1)) a6_4)) (hR.2.2.1 13 k77 (show k77 < cN τ77 0 by first | assumption | omega)) dX7_share_135 (fun H locs hw I hR hF hS => ?_)
              have hR : RC E Pr (cSD τ77 k77 y1 (fJ9_floorDiv_f86c9 (x1 * (fX7_weightIn τ77 k77 y1)) a6_4)) ad fa hw := hR
              have hW : CW (cSD τ77 k77 y1 (fJ9_floorDiv_f86c9 (x1 * (fX7_weightIn τ77 k77 y1)) a6_4)) := hW.sD k77 y1 (fJ9_floorDiv_f86c9 (x1 * (fX7_weightIn τ77 k77 y1)) a6_4)
              refine lv_lload hx hb dX7_share_136 (lv_at hl 5 rfl) ?_
              refine lv_lload hx hb dX7_share_138 (lv_at hl 0 rfl) ?_
              refine lv_lsub hx hb dX7_share_140 ?_
              refine lv_lstore (lv' := [(6, .long (a77_6 - (fJ9_floorDiv_f86c9 (x1 * (fX7_weightIn τ77 k77 y1)) a6_4))), (9, .long (fJ9_floorDiv_f86c9 (x1 * (fX7_weightIn τ77 k77 y1)) a6_4)), (0, .ref (ad 0 0)), (1, .int (nI y1)), (2, .long x1), (4, .long a6_4), (8, .int (nI k77))]) hx hb dX7_share_141 hl (by decide) rfl (fun ls hl => ?_)
              refine lv_iinc (v := (nI (k77 + 1))) (lv' := [(8, .int (nI (k77 + 1))), (6, .long (a77_6 - (fJ9_floorDiv_f86c9 (x1 * (fX7_weightIn τ77 k77 y1)) a6_4))), (9, .long (fJ9_floorDiv_f86c9 (x1 * (fX7_weightIn τ77 k77 y1)) a6_4)), (0, .ref (ad 0 0)), (1, .int (nI y1)), (2, .long x1), (4, .long a6_4)]) hx hb dX7_share_143 hl (k := 6) rfl (nI_succ k77).symm (by decide) rfl (fun ls hl => ?_)
              refine lv_goto (tgt := 77) hx hb dX7_share_146 (by decide) ?_
              exact ih (k77 + 1) (a77_6 - (fJ9_floorDiv_f86c9 (x1 * (fX7_weightIn τ77 k77 y1)) a6_4)) (cSD τ77 k77 y1 (fJ9_floorDiv_f86c9 (x1 * (fX7_weightIn τ77 k77 y1)) a6_4)) (by first | omega | (simp only [cSI_N, cSL_N, cSM_N, cSD_N]; omega)) H locs hw I hR hF hS hW hG ls (lv_sub hl [3, 4, 5, 6, 1, 0] rfl)
        exact L77 (cN τ 0) 0 x1 τ (by omega) s.heap [] h I hR hF hS hW hG ls (lv_sub hl [2, 3, 4, 5, 1, 0] rfl)
      · skip
        rw [if_neg c_56] at hG
        refine lv_aload_n hx hb dX7_share_60 rfl (lv_at hl 0 rfl) ?_
        refine lv_dup hx hb dX7_share_61 rfl ?_
        refine xget (C := RX7) (T := TX7) (N := 14) 13 hx hb hts hin7 hown I hR.f0 rfl (by decide) (List.mem_of_getElem? (i := 3) rfl) rfl rfl dX7_share_62 ?_
        refine lv_lload_n hx hb dX7_share_65 rfl (lv_at hl 2 rfl) ?_
        refine lv_lsub hx hb dX7_share_66 ?_
        refine xputC 13 hx hb hts hin7 tyX7 tyX7_ok nmX7 hown I hS hF hR.f0 rfl (by decide) (List.mem_of_getElem? (i := 3) rfl) rfl rfl rfl rfl rfl (Nat.le_of_ble_eq_true rfl) (hR.p0_13 (i := 0) ((cL τ 0 0) - x1)) (hR.2.2.1 0 0 rfl) dX7_share_67 (fun H locs hw I hR hF hS => ?_)
        have hR : RC E Pr (cSL τ 0 0 ((cL τ 0 0) - x1)) ad fa hw := hR
        have hW : CW (cSL τ 0 0 ((cL τ 0 0) - x1)) := hW.sL 0 0 ((cL τ 0 0) - x1)
        subst hG
        exact W.widen (Nat.le_of_ble_eq_true rfl) (Nat.le_of_ble_eq_true rfl) (xrvQ hx hb hr hlocks dX7_share_70 I hS ⟨rfl, hR, hF, hW⟩)
    | succ n6 ih =>
      intro k6 a6_4 hkn hG ls hl
      have hk : k6 < cN τ 0 := by omega
      have hG : lseq ((if (fX7_isShared τ k6 y1) = 0 then a6_4 else (a6_4 + (fX7_weightIn τ k6 y1)))) (fun q => fX7_share_L6 τ y1 x1 n6 (k6 + 1) q) = G := hG
      refine lv_iload hx hb dX7_share_6 (lv_at hl 4 rfl) ?_
      refine lv_aload_n hx hb dX7_share_8 rfl (lv_at hl 0 rfl) ?_
      refine xget (C := RX7) (T := TX7) (N := 14) 7 hx hb hts hin7 hown I hR.f0 rfl (by decide) (List.mem_of_getElem? (i := 1) rfl) rfl rfl dX7_share_9 ?_
      refine lv_icmp_ge (tgt := 53) hx hb dX7_share_12 (by decide) (fun q => absurd q (nI_ge hk (by omega))) (fun _ => ?_)
      refine lv_aload_n hx hb dX7_share_15 rfl (lv_at hl 0 rfl) ?_
      refine lv_aload_n hx hb dX7_share_16 rfl (lv_at hl 0 rfl) ?_
      refine xget (C := RX7) (T := TX7) (N := 14) 0 hx hb hts hin7 hown I hR.f0 rfl (by decide) (List.mem_of_getElem? (i := 2) rfl) rfl rfl dX7_share_17 ?_
      refine lv_iload hx hb dX7_share_20 (lv_at hl 4 rfl) ?_
      refine xaald (i := k6) (n := 12) 3 hx hb I rfl hR.f1 (by omega) (by decide) (hR.2.2.2.2.1 k6 (show k6 < cN τ 0 by first | assumption | omega)) dX7_share_22 ?_
      refine W.eq (g2 := F0 m 23 ls [.ref (ad 10 k6), .ref (ad 0 0)]) rfl ?_
      refine lv_iload_n hx hb dX7_share_23 rfl (lv_at hl 1 rfl) ?_
      refine xcvR (As := [.ref (ad 10 k6), .int (nI y1)]) (rest := []) (v := some (.int (fX7_isShared τ k6 y1))) ⟨hx, hb, hml, hown, hts⟩ (mX7_isShared l lo D E h Pr τ ad fa hR hW k6 y1 (show k6 < cN τ 0 by first | assumption | omega) (by first | assumption | omega)) (cwV 2 hts gX7_share_X7_isShared rfl rfl rfl (by decide +kernel) ⟨Nat.le_of_ble_eq_true rfl, Nat.le_of_ble_eq_true rfl⟩) I hR.f0 rfl rfl hl.1 rfl (Nat.le_of_ble_eq_true rfl) dX7_share_24 ⟨Nat.le_of_ble_eq_true rfl, Nat.le_of_ble_eq_true rfl⟩ ?_
      refine W.eq (g2 := F0 m 27 ls [.int (fX7_isShared τ k6 y1)]) rfl ?_
      refine lv_if_eq (tgt := 47) hx hb dX7_share_27 (by decide) (fun c_27 => ?_) (fun c_27 => ?_)
      · skip
        rw [if_pos c_27] at hG
        refine lv_iinc (v := (nI (k6 + 1))) (lv' := [(6, .int (nI (k6 + 1))), (0, .ref (ad 0 0)), (1, .int (nI y1)), (2, .long x1), (4, .long a6_4)]) hx hb dX7_share_47 hl (k := 4) rfl (nI_succ k6).symm (by decide) rfl (fun ls hl => ?_)
        refine lv_goto (tgt := 6) hx hb dX7_share_50 (by decide) ?_
        exact ih (k6 + 1) a6_4 (by first | omega | (simp only [cSI_N, cSL_N, cSM_N, cSD_N]; omega)) hG ls (lv_sub hl [1, 2, 3, 4, 0] rfl)
      · skip
        rw [if_neg c_27] at hG
        refine lv_lload hx hb dX7_share_30 (lv_at hl 3 rfl) ?_
        refine lv_aload_n hx hb dX7_share_32 rfl (lv_at hl 0 rfl) ?_
        refine lv_aload_n hx hb dX7_share_33 rfl (lv_at hl 0 rfl) ?_
        refine xget (C := RX7) (T := TX7) (N := 14) 0 hx hb hts hin7 hown I hR.f0 rfl (by decide) (List.mem_of_getElem? (i := 2) rfl) rfl rfl dX7_share_34 ?_
        refine lv_iload hx hb dX7_share_37 (lv_at hl 4 rfl) ?_
        refine xaald (i := k6) (n := 12) 3 hx hb I rfl hR.f1 (by omega) (by decide) (hR.2.2.2.2.1 k6 (show k6 < cN τ 0 by first | assumption | omega)) dX7_share_39 ?_
        refine W.eq (g2 := F0 m 40 ls [.ref (ad 10 k6), .ref (ad 0 0), .long a6_4]) rfl ?_
        refine lv_iload_n hx hb dX7_share_40 rfl (lv_at hl 1 rfl) ?_
        refine xcvR (As := [.ref (ad 10 k6), .int (nI y1)]) (rest := [.long a6_4]) (v := some (.long (fX7_weightIn τ k6 y1))) ⟨hx, hb, hml, hown, hts⟩ (mX7_weightIn l lo D E h Pr τ ad fa hR hW k6 y1 (show k6 < cN τ 0 by first | assumption | omega) (by first | assumption | omega)) (cwV 2 hts gX7_share_X7_weightIn rfl rfl rfl (by decide +kernel) ⟨Nat.le_of_ble_eq_true rfl, Nat.le_of_ble_eq_true rfl⟩) I hR.f0 rfl rfl hl.1 rfl (Nat.le_of_ble_eq_true rfl) dX7_share_41 ⟨Nat.le_of_ble_eq_true rfl, Nat.le_of_ble_eq_true rfl⟩ ?_
        refine W.eq (g2 := F0 m 44 ls [.long (fX7_weightIn τ k6 y1), .long a6_4]) rfl ?_
        refine lv_ladd hx hb dX7_share_44 ?_
        refine lv_lstore (lv' := [(4, .long (a6_4 + (fX7_weightIn τ k6 y1))), (0, .ref (ad 0 0)), (1, .int (nI y1)), (2, .long x1), (6, .int (nI k6))]) hx hb dX7_share_45 hl (by decide) rfl (fun ls hl => ?_)
        refine lv_iinc (v := (nI (k6 + 1))) (lv' := [(6, .int (nI (k6 + 1))), (4, .long (a6_4 + (fX7_weightIn τ k6 y1))), (0, .ref (ad 0 0)), (1, .int (nI y1)), (2, .long x1)]) hx hb dX7_share_47 hl (k := 4) rfl (nI_succ k6).symm (by decide) rfl (fun ls hl => ?_)
        refine lv_goto (tgt := 6) hx hb dX7_share_50 (by decide) ?_
        exact ih (k6 + 1) (a6_4 + (fX7_weightIn τ k6 y1)) (by first | omega | (simp only [cSI_N, cSL_N, cSM_N, cSD_N]; omega)) hG ls (lv_sub hl [2, 3, 4, 1, 0] rfl)
  exact L6 (cN τ 0) 0 (0 : Int64) (by omega) hG ls (lv_sub hl [2, 3, 4, 1, 0] rfl)

def fX7_release_S39 (τ : CT) (a1 : Int32) (a2 : Int32) (x2 : Nat) (k39 : Nat) (a39_4 : Int32) (τ39 : CT) : (Int32 × CT) := ((if (fX7_isShared τ39 x2 k39) = 0 then a39_4 else (if (cI τ39 33 k39) = 0 then (a39_4 + 1) else a39_4)), (if (fX7_isShared τ39 x2 k39) = 0 then τ39 else (if (cI τ39 33 k39) = 0 then (fX7_releaseFrom τ39 x2 k39 (nI (tn a2))) else τ39)))
def fX7_release_L39 (τ : CT) (a1 : Int32) (a2 : Int32) (x2 : Nat) : Nat → Nat → Int32 → CT → (String ⊕ (Int32 × CT))
  | 0, k39, a39_4, τ39 => (if a39_4 = 0 then (Sum.inl "java/lang/IllegalStateException") else (Sum.inr (a39_4, τ39)))
  | n39 + 1, k39, a39_4, τ39 => lseq (fX7_release_S39 τ a1 a2 x2 k39 a39_4 τ39) (fun q => fX7_release_L39 τ a1 a2 x2 n39 (k39 + 1) q.1 q.2)
def fX7_release (τ : CT) (a1 : Int32) (a2 : Int32) : (String ⊕ (Int32 × CT)) := (xbindE (fX7_memberOf τ a1) (fun x2 => (xbindE (fX7_checkRange a2 (nI 0) (nI 200)) (fun _ => (if (fX7_hasShipEntered τ x2) = 0 then (fX7_release_L39 τ a1 a2 x2 20 0 (nI 0) τ) else (Sum.inl "java/lang/IllegalStateException"))))))
set_option maxHeartbeats 4000000 in
set_option maxRecDepth 100000 in
theorem mX7_release (l : Launch) (lo : Nat) (D : va_G) (E : Nat → ClassId) (h : XW) (hlst : l.stackTraces = false) (Pr : Nat → Prop) (τ : CT) (ad : Nat → Nat → Nat) (fa : Nat → Nat → Option Nat) (hR : RC E Pr τ ad fa h) (hW : CW τ) (a1 : Int32) (a2 : Int32) : vx_Met l yX7_release wsX7_release ({ frames := 7, cells := 3, slots := 18, locals := 146 } : Room) (xP lo D E h [.ref (ad 0 0), .int a1, .int a2]) (xQ lo D (fun v h' => ∃ x, (fX7_release τ a1 a2) = .inr x ∧ v = some (.int x.1) ∧ RC E Pr (x.2) ad fa h' ∧ cF Pr h h' ∧ CW x.2)) (xXp lo D h (fun En => (fX7_release τ a1 a2) = .inl En)) 3 18 (xA lo) := by
  obtain ⟨G, hG⟩ : ∃ G, fX7_release τ a1 a2 = G := ⟨_, rfl⟩
  rw [hG]
  unfold fX7_release at hG
  refine vx_ofW (cc := cX7_release) (maxL := 6) (ret := (some .int)) (by decide) rfl ?_
  intro p e s m args below meth c s₁ B hml hout hv
  obtain ⟨rfl, I⟩ := hv
  have hx := B.exec
  have hb := B.bytes
  have hr := B.returns
  have hts := atoms_spec (ws := wsX7_release) B.pre
  have hown : s.vm.findClass RX7 = some m.cls := findClass_of_methodNamed B.named
  have hlocks := B.notSynchronized
  have hl := lv_entry ([.ref (ad 0 0), .int a1, .int a2] : List Value) (n := 6) (Nat.le_of_ble_eq_true rfl)
  rw [lg_entry_eq]
  generalize (lg_sl ([.ref (ad 0 0), .int a1, .int a2] : List Value) ++ List.replicate (6 - (lg_sl ([.ref (ad 0 0), .int a1, .int a2] : List Value)).length) Slot.unset).toArray = ls at hl ⊢
  have hl : lv_has ls 6 [(0, .ref (ad 0 0)), (1, .int a1), (2, .int a2)] := hl
  have hin7 : ∀ w ∈ u_ws RX7 TX7 14, w ∈ wsX7_release := fun _ h => List.mem_cons_of_mem _ (List.mem_append_left _ (List.mem_append_left _ (List.mem_append_left _ (List.mem_append_left _ (List.mem_append_left _ (List.mem_append_left _ (List.mem_append_left _ (List.mem_append_right _ (h)))))))))
  have hin3 : ∀ w ∈ u_ws RX3 TX3 5, w ∈ wsX7_release := fun _ h => List.mem_cons_of_mem _ (List.mem_append_left _ (List.mem_append_left _ (List.mem_append_left _ (List.mem_append_left _ (List.mem_append_right _ (h))))))
  have hin5 : ∀ w ∈ u_ws RX5 TX5 4, w ∈ wsX7_release := fun _ h => List.mem_cons_of_mem _ (List.mem_append_left _ (List.mem_append_left _ (List.mem_append_left _ (List.mem_append_left _ (List.mem_append_left _ (List.mem_append_right _ (h)))))))
  have hin1 : ∀ w ∈ u_ws RX1 TX1 3, w ∈ wsX7_release := fun _ h => List.mem_cons_of_mem _ (List.mem_append_left _ (List.mem_append_left _ (List.mem_append_left _ (List.mem_append_right _ (h)))))
  have hin6 : ∀ w ∈ u_ws RX6 TX6 7, w ∈ wsX7_release := fun _ h => List.mem_cons_of_mem _ (List.mem_append_left _ (List.mem_append_left _ (List.mem_append_left _ (List.mem_append_left _ (List.mem_append_left _ (List.mem_append_left _ (List.mem_append_right _ (h))))))))
  have hg61 : ∀ w ∈ (vx_atS RX7 61 "java/lang/IllegalStateException" xnames).filter goodWord, w ∈ wsX7_release := fun _ h => List.mem_cons_of_mem _ (List.mem_append_left _ (List.mem_append_left _ (List.mem_append_right _ (h))))
  have hg334 : ∀ w ∈ (vx_atS RX7 334 "java/lang/IndexOutOfBoundsException" xnames).filter goodWord, w ∈ wsX7_release := fun _ h => List.mem_cons_of_mem _ (List.mem_append_left _ (List.mem_append_right _ (h)))
  have hg177 : ∀ w ∈ (vx_atS RX7 177 "java/lang/IllegalArgumentException" xnames).filter goodWord, w ∈ wsX7_release := fun _ h => List.mem_cons_of_mem _ (List.mem_append_right _ (h))
  have hW0 := hW
  obtain ⟨w0, -⟩ := id hW
  have hS : va_S (xA lo) s.heap s.heap [] := va_S.rf
  have hT0 : XT lo s s.heap := I.2.2.2.2
  have hF : cF Pr h h := cF.rf
  refine lv_aload_n hx hb dX7_release_0 rfl (lv_at hl 0 rfl) ?_
  refine lv_iload_n hx hb dX7_release_1 rfl (lv_at hl 1 rfl) ?_
  refine xcvX (As := [.int a1]) (rest := []) ⟨hx, hb, hml, hown, hts⟩ (mX7_memberOf l lo D E h hlst Pr τ ad fa hR hW a1) (cwV 1 hts gX7_release_X7_memberOf rfl rfl rfl (by decide +kernel) ⟨Nat.le_of_ble_eq_true rfl, Nat.le_of_ble_eq_true rfl⟩) I hS hR.f0 rfl rfl hl.1 rfl (Nat.le_of_ble_eq_true rfl) dX7_release_2 ⟨Nat.le_of_ble_eq_true rfl, Nat.le_of_ble_eq_true rfl⟩ hout hlocks (fun En q => by rw [q] at hG; exact hG.symm) ⟨Nat.le_of_ble_eq_true rfl, Nat.le_of_ble_eq_true rfl⟩ (fun v9 hw9 H locs q9 I hS => ?_)
  obtain ⟨x2, e2, q1, q2⟩ := q9
  subst q1
  rw [q2] at I
  rw [e2] at hG
  have hG : (xbindE (fX7_checkRange a2 (nI 0) (nI 200)) (fun _ => (if (fX7_hasShipEntered τ x2) = 0 then (fX7_release_L39 τ a1 a2 x2 20 0 (nI 0) τ) else (Sum.inl "java/lang/IllegalStateException")))) = G := hG
  obtain ⟨l_x2, e_x2⟩ := okc_memberOf hW0 e2
  refine W.eq (g2 := F0 m 5 ls [.ref (ad 10 x2)]) rfl ?_
  refine lv_astore_n (lv' := [(3, .ref (ad 10 x2)), (0, .ref (ad 0 0)), (1, .int a1), (2, .int a2)]) hx hb dX7_release_5 rfl hl (by decide) rfl (fun ls hl => ?_)
  refine lv_iload_n hx hb dX7_release_6 rfl (lv_at hl 3 rfl) ?_
  refine lv_iconst (v := (nI 0)) hx hb dX7_release_7 (by decide) ?_
  refine lv_sipush (v := (nI 200)) hx hb dX7_release_8 (by decide) ?_
  refine xcsX (As := [.int a2, .int (nI 0), .int (nI 200)]) (rest := []) ⟨hx, hb, hml, hown, hts⟩ (mX7_checkRange l lo D E h hlst a2 (nI 0) (nI 200)) (va_cwS 3 hts gX7_release_X7_checkRange rfl rfl rfl (by decide +kernel) ⟨Nat.le_of_ble_eq_true rfl, Nat.le_of_ble_eq_true rfl⟩) I hS rfl hl.1 rfl (Nat.le_of_ble_eq_true rfl) dX7_release_11 ⟨Nat.le_of_ble_eq_true rfl, Nat.le_of_ble_eq_true rfl⟩ hout hlocks (fun En q => by rw [q] at hG; exact hG.symm) ⟨Nat.le_of_ble_eq_true rfl, Nat.le_of_ble_eq_true rfl⟩ (fun v9 hw9 H locs q9 I hS => ?_)
  obtain ⟨x11, e11, q1, q2⟩ := q9
  subst q1
  rw [q2] at I
  rw [e11] at hG
  have hG : (if (fX7_hasShipEntered τ x2) = 0 then (fX7_release_L39 τ a1 a2 x2 20 0 (nI 0) τ) else (Sum.inl "java/lang/IllegalStateException")) = G := hG
  obtain ⟨e_a2, l_a2⟩ := okc_checkRange (by omega) e11
  refine W.eq (g2 := F0 m 14 ls []) rfl ?_
  refine lv_aload_n hx hb dX7_release_14 rfl (lv_at hl 1 rfl) ?_
  refine lv_aload_n hx hb dX7_release_15 rfl (lv_at hl 0 rfl) ?_
  refine xcvR (As := [.ref (ad 10 x2)]) (rest := []) (v := some (.int (fX7_hasShipEntered τ x2))) ⟨hx, hb, hml, hown, hts⟩ (mX7_hasShipEntered l lo D E h Pr τ ad fa hR hW x2 (show x2 < cN τ 0 by first | assumption | omega)) (cwV 1 hts gX7_release_X7_hasShipEntered rfl rfl rfl (by decide +kernel) ⟨Nat.le_of_ble_eq_true rfl, Nat.le_of_ble_eq_true rfl⟩) I hR.f0 rfl rfl hl.1 rfl (Nat.le_of_ble_eq_true rfl) dX7_release_16 ⟨Nat.le_of_ble_eq_true rfl, Nat.le_of_ble_eq_true rfl⟩ ?_
  refine W.eq (g2 := F0 m 19 ls [.int (fX7_hasShipEntered τ x2)]) rfl ?_
  refine lv_if_eq (tgt := 33) hx hb dX7_release_19 (by decide) (fun c_19 => ?_) (fun c_19 => ?_)
  · skip
    rw [if_pos c_19] at hG
    refine lv_iconst (v := (nI 0)) hx hb dX7_release_33 (by decide) ?_
    refine lv_istore (lv' := [(4, .int (nI 0)), (3, .ref (ad 10 x2)), (0, .ref (ad 0 0)), (1, .int a1), (2, .int a2)]) hx hb dX7_release_34 hl (by decide) rfl (fun ls hl => ?_)
    refine lv_iconst (v := (nI 0)) hx hb dX7_release_36 (by decide) ?_
    refine lv_istore (lv' := [(5, .int (nI 0)), (4, .int (nI 0)), (3, .ref (ad 10 x2)), (0, .ref (ad 0 0)), (1, .int a1), (2, .int a2)]) hx hb dX7_release_37 hl (by decide) rfl (fun ls hl => ?_)
    have L39 : ∀ (n39 : Nat) (k39 : Nat) (a39_4 : Int32) (τ39 : CT), k39 + n39 = 20 → ∀ (H : Heap) (locs : List Loc) (hw : XW), XI lo D E hw s H → RC E Pr τ39 ad fa hw → cF Pr h hw → va_S (xA lo) s.heap H locs → CW τ39 → x2 < cN τ39 0 → (∃ d9 : Nat, d9 ≤ k39 ∧ a39_4 = nI d9 ∧ (d9 = 0 → hw = h)) → fX7_release_L39 τ a1 a2 x2 n39 k39 a39_4 τ39 = G → ∀ ls : Array Slot, lv_has ls 6 [(0, .ref (ad 0 0)), (2, .int a2), (3, .ref (ad 10 x2)), (4, .int a39_4), (5, .int (nI k39))] → W p l e (headSpec wsX7_release ({ frames := 7, cells := 3, slots := 18, locals := 146 } : Room)).room s m ([.ref (ad 0 0), .int a1, .int a2] : List Value).toArray below meth c H locs 2 12 (vx_MQ below (xQ lo D (fun v h' => ∃ x, G = .inr x ∧ v = some (.int x.1) ∧ RC E Pr (x.2) ad fa h' ∧ cF Pr h h' ∧ CW x.2)) (xXp lo D h (fun En => G = .inl En)) ([.ref (ad 0 0), .int a1, .int a2] : List Value).toArray s 3 18 (xA lo)) (F0 m 39 ls []) := by
      intro n39
      induction n39 with
      | zero =>
        intro k39 a39_4 τ39 hkn H locs hw I hR hF hS hW si0 si1 hG ls hl
        have hkN : k39 = 20 := by omega
        have wf39 := hW.1
        have hG : (if a39_4 = 0 then (Sum.inl "java/lang/IllegalStateException") else (Sum.inr (a39_4, τ39))) = G := hG
        refine lv_iload hx hb dX7_release_39 (lv_at hl 4 rfl) ?_
        refine lv_bipush (v := (nI 20)) hx hb dX7_release_41 (by decide) ?_
        refine lv_icmp_ge (tgt := 86) hx hb dX7_release_43 (by decide) (fun _ => ?_) (fun q => absurd (nI_le (Nat.le_of_eq hkN.symm) (by omega)) q)
        refine lv_iload hx hb dX7_release_86 (lv_at hl 3 rfl) ?_
        refine lv_if_ne (tgt := 102) hx hb dX7_release_88 (by decide) (fun c_88 => ?_) (fun c_88 => ?_)
        · skip
          rw [if_neg c_88] at hG
          refine lv_iload hx hb dX7_release_102 (lv_at hl 3 rfl) ?_
          exact xriX hx hb hr hlocks dX7_release_104 I hS ⟨_, hG.symm, rfl, hR, hF, hW⟩ (Nat.le_of_ble_eq_true rfl) (Nat.le_of_ble_eq_true rfl)
        · skip
          rw [if_pos c_88] at hG
          obtain ⟨c9, c91, c92, c93⟩ := si1
          have c94 : c9 = 0 := (nI_eq (by omega) (by decide)).mp (c92.symm.trans c_88)
          have hwh := c93 c94
          rw [hwh] at I
          exact xthSW (ik := 57) (is := 273) (ic := 61) (X := "java/lang/IllegalStateException") (text := "there is no open year to release the member of") hx hb hlst hown hts (by decide) (List.mem_of_getElem? (i := 1) rfl) (List.mem_of_getElem? (i := 2) rfl) hg61 (by decide) hT0 I hS (hl.1.trans hml.symm) dX7_release_91 dX7_release_94 dX7_release_95 dX7_release_98 dX7_release_101 hout (Nat.le_of_ble_eq_true rfl) (Nat.le_of_ble_eq_true rfl) (Nat.le_of_ble_eq_true rfl) (Nat.le_of_ble_eq_true rfl) hlocks hG.symm (Nat.le_of_ble_eq_true rfl) (Nat.le_of_ble_eq_true rfl)
      | succ n39 ih =>
        intro k39 a39_4 τ39 hkn H locs hw I hR hF hS hW si0 si1 hG ls hl
        have hk : k39 < 20 := by omega
        have wf39 := hW.1
        have hG : lseq (((if (fX7_isShared τ39 x2 k39) = 0 then a39_4 else (if (cI τ39 33 k39) = 0 then (a39_4 + 1) else a39_4)), (if (fX7_isShared τ39 x2 k39) = 0 then τ39 else (if (cI τ39 33 k39) = 0 then (fX7_releaseFrom τ39 x2 k39 (nI (tn a2))) else τ39)))) (fun q => fX7_release_L39 τ a1 a2 x2 n39 (k39 + 1) q.1 q.2) = G := hG
        refine lv_iload hx hb dX7_release_39 (lv_at hl 4 rfl) ?_
        refine lv_bipush (v := (nI 20)) hx hb dX7_release_41 (by decide) ?_
        refine lv_icmp_ge (tgt := 86) hx hb dX7_release_43 (by decide) (fun q => absurd q (nI_ge hk (by omega))) (fun _ => ?_)
        refine lv_aload_n hx hb dX7_release_46 rfl (lv_at hl 0 rfl) ?_
        refine lv_aload_n hx hb dX7_release_47 rfl (lv_at hl 2 rfl) ?_
        refine lv_iload hx hb dX7_release_48 (lv_at hl 4 rfl) ?_
        refine xcvR (As := [.ref (ad 10 x2), .int (nI k39)]) (rest := []) (v := some (.int (fX7_isShared τ39 x2 k39))) ⟨hx, hb, hml, hown, hts⟩ (mX7_isShared l lo D E hw Pr τ39 ad fa hR hW x2 k39 (show x2 < cN τ39 0 by first | assumption | omega) (by first | assumption | omega)) (cwV 2 hts gX7_release_X7_isShared rfl rfl rfl (by decide +kernel) ⟨Nat.le_of_ble_eq_true rfl, Nat.le_of_ble_eq_true rfl⟩) I hR.f0 rfl rfl hl.1 rfl (Nat.le_of_ble_eq_true rfl) dX7_release_50 ⟨Nat.le_of_ble_eq_true rfl, Nat.le_of_ble_eq_true rfl⟩ ?_
        refine W.eq (g2 := F0 m 53 ls [.int (fX7_isShared τ39 x2 k39)]) rfl ?_
        refine lv_if_eq (tgt := 80) hx hb dX7_release_53 (by decide) (fun c_53 => ?_) (fun c_53 => ?_)
        · skip
          rw [if_pos c_53] at hG; rw [if_pos c_53] at hG
          refine lv_iinc (v := (nI (k39 + 1))) (lv' := [(5, .int (nI (k39 + 1))), (0, .ref (ad 0 0)), (2, .int a2), (3, .ref (ad 10 x2)), (4, .int a39_4)]) hx hb dX7_release_80 hl (k := 4) rfl (nI_succ k39).symm (by decide) rfl (fun ls hl => ?_)
          refine lv_goto (tgt := 39) hx hb dX7_release_83 (by decide) ?_
          exact ih (k39 + 1) a39_4 τ39 (by first | omega | (simp only [cSI_N, cSL_N, cSM_N, cSD_N]; omega)) H locs hw I hR hF hS hW (by first | assumption | exact l_x2 | exact si0 | exact ⟨0, Nat.le_refl _, rfl, fun _ => rfl⟩ | (obtain ⟨c9, c91, c92, c93⟩ := si1; exact ⟨c9, by omega, c92, c93⟩) | (obtain ⟨c9, c91, c92, c93⟩ := si1; exact ⟨c9 + 1, by omega, by rw [c92]; exact (nI_succ c9).symm, fun z => by omega⟩)) (by first | assumption | exact l_x2 | exact si0 | exact ⟨0, Nat.le_refl _, rfl, fun _ => rfl⟩ | (obtain ⟨c9, c91, c92, c93⟩ := si1; exact ⟨c9, by omega, c92, c93⟩) | (obtain ⟨c9, c91, c92, c93⟩ := si1; exact ⟨c9 + 1, by omega, by rw [c92]; exact (nI_succ c9).symm, fun z => by omega⟩)) hG ls (lv_sub hl [1, 2, 3, 4, 0] rfl)
        · skip
          rw [if_neg c_53] at hG; rw [if_neg c_53] at hG
          refine lv_aload_n hx hb dX7_release_56 rfl (lv_at hl 0 rfl) ?_
          refine xget (C := RX7) (T := TX7) (N := 14) 5 hx hb hts hin7 hown I hR.f0 rfl (by decide) (List.mem_of_getElem? (i := 3) rfl) rfl rfl dX7_release_57 ?_
          refine lv_iload hx hb dX7_release_60 (lv_at hl 4 rfl) ?_
          refine xaald (i := k39) (n := 20) 8 hx hb I rfl hR.f6 (by omega) (by decide) (hR.2.2.2.2.2.2.2.2.2 k39 (show k39 < 20 by first | assumption | omega)) dX7_release_62 ?_
          refine W.eq (g2 := F0 m 63 ls [.ref (ad 18 k39)]) rfl ?_
          refine xget (C := RX6) (T := TX6) (N := 7) 2 hx hb hts hin6 hown I (hR.f18 (show k39 < 20 by first | assumption | omega)) rfl (by decide) (List.mem_of_getElem? (i := 4) rfl) rfl rfl dX7_release_63 ?_
          refine lv_if_ne (tgt := 80) hx hb dX7_release_66 (by decide) (fun c_66 => ?_) (fun c_66 => ?_)
          · skip
            rw [if_neg c_66] at hG; rw [if_neg c_66] at hG
            refine lv_iinc (v := (nI (k39 + 1))) (lv' := [(5, .int (nI (k39 + 1))), (0, .ref (ad 0 0)), (2, .int a2), (3, .ref (ad 10 x2)), (4, .int a39_4)]) hx hb dX7_release_80 hl (k := 4) rfl (nI_succ k39).symm (by decide) rfl (fun ls hl => ?_)
            refine lv_goto (tgt := 39) hx hb dX7_release_83 (by decide) ?_
            exact ih (k39 + 1) a39_4 τ39 (by first | omega | (simp only [cSI_N, cSL_N, cSM_N, cSD_N]; omega)) H locs hw I hR hF hS hW (by first | assumption | exact l_x2 | exact si0 | exact ⟨0, Nat.le_refl _, rfl, fun _ => rfl⟩ | (obtain ⟨c9, c91, c92, c93⟩ := si1; exact ⟨c9, by omega, c92, c93⟩) | (obtain ⟨c9, c91, c92, c93⟩ := si1; exact ⟨c9 + 1, by omega, by rw [c92]; exact (nI_succ c9).symm, fun z => by omega⟩)) (by first | assumption | exact l_x2 | exact si0 | exact ⟨0, Nat.le_refl _, rfl, fun _ => rfl⟩ | (obtain ⟨c9, c91, c92, c93⟩ := si1; exact ⟨c9, by omega, c92, c93⟩) | (obtain ⟨c9, c91, c92, c93⟩ := si1; exact ⟨c9 + 1, by omega, by rw [c92]; exact (nI_succ c9).symm, fun z => by omega⟩)) hG ls (lv_sub hl [1, 2, 3, 4, 0] rfl)
          · skip
            rw [if_pos c_66] at hG; rw [if_pos c_66] at hG
            refine lv_aload_n hx hb dX7_release_69 rfl (lv_at hl 0 rfl) ?_
            refine lv_aload_n hx hb dX7_release_70 rfl (lv_at hl 2 rfl) ?_
            refine lv_iload hx hb dX7_release_71 (lv_at hl 4 rfl) ?_
            refine lv_iload_n hx hb dX7_release_73 rfl (lv_at hl 1 rfl) ?_
            refine xtop (y := .int (nI (tn a2))) (congrArg Value.int e_a2) ?_
            refine xcvQ (As := [.ref (ad 10 x2), .int (nI k39), .int (nI (tn a2))]) (rest := []) ⟨hx, hb, hml, hown, hts⟩ (mX7_releaseFrom l lo D E hw Pr τ39 ad fa hR hW x2 k39 (nI (tn a2)) (show x2 < cN τ39 0 by first | assumption | omega) (by first | assumption | omega)) (cwV 3 hts gX7_release_X7_releaseFrom rfl rfl rfl (by decide +kernel) ⟨Nat.le_of_ble_eq_true rfl, Nat.le_of_ble_eq_true rfl⟩) I hS hR.f0 rfl rfl hl.1 rfl (Nat.le_of_ble_eq_true rfl) dX7_release_74 ⟨Nat.le_of_ble_eq_true rfl, Nat.le_of_ble_eq_true rfl⟩ (fun v9 hw H locs q9 I hS => ?_)
            obtain ⟨q1, hR, hF9, hW⟩ := q9
            subst q1
            have hF := cF.tr hF hF9
            refine W.eq (g2 := F0 m 77 ls []) rfl ?_
            refine lv_iinc (v := (a39_4 + 1)) (lv' := [(4, .int (a39_4 + 1)), (0, .ref (ad 0 0)), (2, .int a2), (3, .ref (ad 10 x2)), (5, .int (nI k39))]) hx hb dX7_release_77 hl (k := 3) rfl rfl (by decide) rfl (fun ls hl => ?_)
            refine lv_iinc (v := (nI (k39 + 1))) (lv' := [(5, .int (nI (k39 + 1))), (4, .int (a39_4 + 1)), (0, .ref (ad 0 0)), (2, .int a2), (3, .ref (ad 10 x2))]) hx hb dX7_release_80 hl (k := 4) rfl (nI_succ k39).symm (by decide) rfl (fun ls hl => ?_)
            refine lv_goto (tgt := 39) hx hb dX7_release_83 (by decide) ?_
            exact ih (k39 + 1) (a39_4 + 1) (fX7_releaseFrom τ39 x2 k39 (nI (tn a2))) (by first | omega | (simp only [cSI_N, cSL_N, cSM_N, cSD_N]; omega)) H locs hw I hR hF hS hW (by first | assumption | exact l_x2 | exact si0 | exact ⟨0, Nat.le_refl _, rfl, fun _ => rfl⟩ | (obtain ⟨c9, c91, c92, c93⟩ := si1; exact ⟨c9, by omega, c92, c93⟩) | (obtain ⟨c9, c91, c92, c93⟩ := si1; exact ⟨c9 + 1, by omega, by rw [c92]; exact (nI_succ c9).symm, fun z => by omega⟩)) (by first | assumption | exact l_x2 | exact si0 | exact ⟨0, Nat.le_refl _, rfl, fun _ => rfl⟩ | (obtain ⟨c9, c91, c92, c93⟩ := si1; exact ⟨c9, by omega, c92, c93⟩) | (obtain ⟨c9, c91, c92, c93⟩ := si1; exact ⟨c9 + 1, by omega, by rw [c92]; exact (nI_succ c9).symm, fun z => by omega⟩)) hG ls (lv_sub hl [2, 3, 4, 1, 0] rfl)
    exact L39 20 0 (nI 0) τ (by omega) H locs h I hR hF hS hW (by first | assumption | exact l_x2 | exact si0 | exact ⟨0, Nat.le_refl _, rfl, fun _ => rfl⟩ | (obtain ⟨c9, c91, c92, c93⟩ := si1; exact ⟨c9, by omega, c92, c93⟩) | (obtain ⟨c9, c91, c92, c93⟩ := si1; exact ⟨c9 + 1, by omega, by rw [c92]; exact (nI_succ c9).symm, fun z => by omega⟩)) (by first | assumption | exact l_x2 | exact si0 | exact ⟨0, Nat.le_refl _, rfl, fun _ => rfl⟩ | (obtain ⟨c9, c91, c92, c93⟩ := si1; exact ⟨c9, by omega, c92, c93⟩) | (obtain ⟨c9, c91, c92, c93⟩ := si1; exact ⟨c9 + 1, by omega, by rw [c92]; exact (nI_succ c9).symm, fun z => by omega⟩)) hG ls (lv_sub hl [3, 5, 2, 1, 0] rfl)
  · skip
    rw [if_neg c_19] at hG
    exact xthSW (ik := 57) (is := 260) (ic := 61) (X := "java/lang/IllegalStateException") (text := "the member has a ship entered") hx hb hlst hown hts (by decide) (List.mem_of_getElem? (i := 1) rfl) (List.mem_of_getElem? (i := 2) rfl) hg61 (by decide) hT0 I hS (hl.1.trans hml.symm) dX7_release_22 dX7_release_25 dX7_release_26 dX7_release_29 dX7_release_32 hout (Nat.le_of_ble_eq_true rfl) (Nat.le_of_ble_eq_true rfl) (Nat.le_of_ble_eq_true rfl) (Nat.le_of_ble_eq_true rfl) hlocks hG.symm (Nat.le_of_ble_eq_true rfl) (Nat.le_of_ble_eq_true rfl)

def fX7_close_S30 (τ : CT) (a1 : Int32) (k30 : Nat) (τ30 : CT) : (CT) := (if (nI ((cK τ30 16 (cK τ30 13 k30)) / 100)) = (nI (tn a1)) then (cSI τ30 28 k30 (fX7_isCovered τ30 k30)) else τ30)
def fX7_close_L30 (τ : CT) (a1 : Int32) : Nat → Nat → CT → (String ⊕ (Int64 × CT))
  | 0, k30, τ30 => (Sum.inr ((fX7_costIn τ (nI (tn a1))), (cSI τ30 33 (tn a1) (nI 1))))
  | n30 + 1, k30, τ30 => lseq (fX7_close_S30 τ a1 k30 τ30) (fun q => fX7_close_L30 τ a1 n30 (k30 + 1) q)
def fX7_close (τ : CT) (a1 : Int32) : (String ⊕ (Int64 × CT)) := (xbindE (fX7_checkYear a1) (fun _ => (xbindE (fX7_checkClosable τ (tn a1)) (fun _ => (fX7_close_L30 τ a1 (cN (fX7_share τ (tn a1) ((fX7_costIn τ (nI (tn a1))) - (fX7_dueOfReleased τ (tn a1)))) 3) 0 (fX7_share τ (tn a1) ((fX7_costIn τ (nI (tn a1))) - (fX7_dueOfReleased τ (tn a1)))))))))
set_option maxHeartbeats 4000000 in
set_option maxRecDepth 100000 in
theorem mX7_close (l : Launch) (lo : Nat) (D : va_G) (E : Nat → ClassId) (h : XW) (hlst : l.stackTraces = false) (Pr : Nat → Prop) (τ : CT) (ad : Nat → Nat → Nat) (fa : Nat → Nat → Option Nat) (hR : RC E Pr τ ad fa h) (hW : CW τ) (a1 : Int32) : vx_Met l yX7_close wsX7_close ({ frames := 8, cells := 3, slots := 18, locals := 153 } : Room) (xP lo D E h [.ref (ad 0 0), .int a1]) (xQ lo D (fun v h' => ∃ x, (fX7_close τ a1) = .inr x ∧ v = some (.long x.1) ∧ RC E Pr (x.2) ad fa h' ∧ cF Pr h h' ∧ CW x.2)) (xXp lo D h (fun En => (fX7_close τ a1) = .inl En)) 3 18 (xA lo) := by
  obtain ⟨G, hG⟩ : ∃ G, fX7_close τ a1 = G := ⟨_, rfl⟩
  rw [hG]
  unfold fX7_close at hG
  refine vx_ofW (cc := cX7_close) (maxL := 5) (ret := (some .long)) (by decide) rfl ?_
  intro p e s m args below meth c s₁ B hml hout hv
  obtain ⟨rfl, I⟩ := hv
  have hx := B.exec
  have hb := B.bytes
  have hr := B.returns
  have hts := atoms_spec (ws := wsX7_close) B.pre
  have hown : s.vm.findClass RX7 = some m.cls := findClass_of_methodNamed B.named
  have hlocks := B.notSynchronized
  have hl := lv_entry ([.ref (ad 0 0), .int a1] : List Value) (n := 5) (Nat.le_of_ble_eq_true rfl)
  rw [lg_entry_eq]
  generalize (lg_sl ([.ref (ad 0 0), .int a1] : List Value) ++ List.replicate (5 - (lg_sl ([.ref (ad 0 0), .int a1] : List Value)).length) Slot.unset).toArray = ls at hl ⊢
  have hl : lv_has ls 5 [(0, .ref (ad 0 0)), (1, .int a1)] := hl
  have hin7 : ∀ w ∈ u_ws RX7 TX7 14, w ∈ wsX7_close := fun _ h => List.mem_cons_of_mem _ (List.mem_append_left _ (List.mem_append_left _ (List.mem_append_left _ (List.mem_append_left _ (List.mem_append_left _ (List.mem_append_left _ (List.mem_append_left _ (List.mem_append_left _ (List.mem_append_left _ (List.mem_append_right _ (h)))))))))))
  have hin4 : ∀ w ∈ u_ws RX4 TX4 2, w ∈ wsX7_close := fun _ h => List.mem_cons_of_mem _ (List.mem_append_left _ (List.mem_append_left _ (List.mem_append_right _ (h))))
  have hin3 : ∀ w ∈ u_ws RX3 TX3 5, w ∈ wsX7_close := fun _ h => List.mem_cons_of_mem _ (List.mem_append_left _ (List.mem_append_left _ (List.mem_append_left _ (List.mem_append_left _ (List.mem_append_right _ (h))))))
  have hin5 : ∀ w ∈ u_ws RX5 TX5 4, w ∈ wsX7_close := fun _ h => List.mem_cons_of_mem _ (List.mem_append_left _ (List.mem_append_left _ (List.mem_append_left _ (List.mem_append_left _ (List.mem_append_left _ (List.mem_append_right _ (h)))))))
  have hin1 : ∀ w ∈ u_ws RX1 TX1 3, w ∈ wsX7_close := fun _ h => List.mem_cons_of_mem _ (List.mem_append_left _ (List.mem_append_left _ (List.mem_append_left _ (List.mem_append_right _ (h)))))
  have hin0 : ∀ w ∈ u_ws RX0 TX0 8, w ∈ wsX7_close := fun _ h => List.mem_cons_of_mem _ (List.mem_append_left _ (List.mem_append_left _ (List.mem_append_left _ (List.mem_append_left _ (List.mem_append_left _ (List.mem_append_left _ (List.mem_append_left _ (List.mem_append_left _ (List.mem_append_right _ (h))))))))))
  have hin2 : ∀ w ∈ u_ws RX2 TX2 3, w ∈ wsX7_close := fun _ h => List.mem_cons_of_mem _ (List.mem_append_left _ (List.mem_append_left _ (List.mem_append_left _ (List.mem_append_left _ (List.mem_append_left _ (List.mem_append_left _ (List.mem_append_left _ (List.mem_append_right _ (h)))))))))
  have hin6 : ∀ w ∈ u_ws RX6 TX6 7, w ∈ wsX7_close := fun _ h => List.mem_cons_of_mem _ (List.mem_append_left _ (List.mem_append_left _ (List.mem_append_left _ (List.mem_append_left _ (List.mem_append_left _ (List.mem_append_left _ (List.mem_append_right _ (h))))))))
  have hg61 : ∀ w ∈ (vx_atS RX7 61 "java/lang/IllegalStateException" xnames).filter goodWord, w ∈ wsX7_close := fun _ h => List.mem_cons_of_mem _ (List.mem_append_right _ (h))
  have hg177 : ∀ w ∈ (vx_atS RX7 177 "java/lang/IllegalArgumentException" xnames).filter goodWord, w ∈ wsX7_close := fun _ h => List.mem_cons_of_mem _ (List.mem_append_left _ (List.mem_append_right _ (h)))
  have hW0 := hW
  obtain ⟨w0, -⟩ := id hW
  have hS : va_S (xA lo) s.heap s.heap [] := va_S.rf
  have hT0 : XT lo s s.heap := I.2.2.2.2
  have hF : cF Pr h h := cF.rf
  refine lv_iload_n hx hb dX7_close_0 rfl (lv_at hl 1 rfl) ?_
  refine xcsX (As := [.int a1]) (rest := []) ⟨hx, hb, hml, hown, hts⟩ (mX7_checkYear l lo D E h hlst a1) (va_cwS 1 hts gX7_close_X7_checkYear rfl rfl rfl (by decide +kernel) ⟨Nat.le_of_ble_eq_true rfl, Nat.le_of_ble_eq_true rfl⟩) I hS rfl hl.1 rfl (Nat.le_of_ble_eq_true rfl) dX7_close_1 ⟨Nat.le_of_ble_eq_true rfl, Nat.le_of_ble_eq_true rfl⟩ hout hlocks (fun En q => by rw [q] at hG; exact hG.symm) ⟨Nat.le_of_ble_eq_true rfl, Nat.le_of_ble_eq_true rfl⟩ (fun v9 hw9 H locs q9 I hS => ?_)
  obtain ⟨x1, e1, q1, q2⟩ := q9
  subst q1
  rw [q2] at I
  rw [e1] at hG
  have hG : (xbindE (fX7_checkClosable τ (tn a1)) (fun _ => (fX7_close_L30 τ a1 (cN (fX7_share τ (tn a1) ((fX7_costIn τ (nI (tn a1))) - (fX7_dueOfReleased τ (tn a1)))) 3) 0 (fX7_share τ (tn a1) ((fX7_costIn τ (nI (tn a1))) - (fX7_dueOfReleased τ (tn a1))))))) = G := hG
  obtain ⟨e_a1, l_a1⟩ := okc_checkYear e1
  refine W.eq (g2 := F0 m 4 ls []) rfl ?_
  refine lv_aload_n hx hb dX7_close_4 rfl (lv_at hl 0 rfl) ?_
  refine lv_iload_n hx hb dX7_close_5 rfl (lv_at hl 1 rfl) ?_
  refine xtop (y := .int (nI (tn a1))) (congrArg Value.int e_a1) ?_
  refine xcvX (As := [.int (nI (tn a1))]) (rest := []) ⟨hx, hb, hml, hown, hts⟩ (mX7_checkClosable l lo D E h hlst Pr τ ad fa hR hW (tn a1) (by first | assumption | omega)) (cwV 1 hts gX7_close_X7_checkClosable rfl rfl rfl (by decide +kernel) ⟨Nat.le_of_ble_eq_true rfl, Nat.le_of_ble_eq_true rfl⟩) I hS hR.f0 rfl rfl hl.1 rfl (Nat.le_of_ble_eq_true rfl) dX7_close_6 ⟨Nat.le_of_ble_eq_true rfl, Nat.le_of_ble_eq_true rfl⟩ hout hlocks (fun En q => by rw [q] at hG; exact hG.symm) ⟨Nat.le_of_ble_eq_true rfl, Nat.le_of_ble_eq_true rfl⟩ (fun v9 hw9 H locs q9 I hS => ?_)
  obtain ⟨x6, e6, q1, q2⟩ := q9
  subst q1
  rw [q2] at I
  rw [e6] at hG
  have hG : (fX7_close_L30 τ a1 (cN (fX7_share τ (tn a1) ((fX7_costIn τ (nI (tn a1))) - (fX7_dueOfReleased τ (tn a1)))) 3) 0 (fX7_share τ (tn a1) ((fX7_costIn τ (nI (tn a1))) - (fX7_dueOfReleased τ (tn a1))))) = G := hG
  refine W.eq (g2 := F0 m 9 ls []) rfl ?_
  refine lv_aload_n hx hb dX7_close_9 rfl (lv_at hl 0 rfl) ?_
  refine lv_iload_n hx hb dX7_close_10 rfl (lv_at hl 1 rfl) ?_
  refine xtop (y := .int (nI (tn a1))) (congrArg Value.int e_a1) ?_
  refine xcvR (As := [.int (nI (tn a1))]) (rest := []) (v := some (.long (fX7_costIn τ (nI (tn a1))))) ⟨hx, hb, hml, hown, hts⟩ (mX7_costIn l lo D E h Pr τ ad fa hR hW (nI (tn a1))) (cwV 1 hts gX7_close_X7_costIn rfl rfl rfl (by decide +kernel) ⟨Nat.le_of_ble_eq_true rfl, Nat.le_of_ble_eq_true rfl⟩) I hR.f0 rfl rfl hl.1 rfl (Nat.le_of_ble_eq_true rfl) dX7_close_11 ⟨Nat.le_of_ble_eq_true rfl, Nat.le_of_ble_eq_true rfl⟩ ?_
  refine W.eq (g2 := F0 m 14 ls [.long (fX7_costIn τ (nI (tn a1)))]) rfl ?_
  refine lv_lstore_n (lv' := [(2, .long (fX7_costIn τ (nI (tn a1)))), (0, .ref (ad 0 0)), (1, .int a1)]) hx hb dX7_close_14 rfl hl (by decide) rfl (fun ls hl => ?_)
  refine lv_aload_n hx hb dX7_close_15 rfl (lv_at hl 1 rfl) ?_
  refine lv_iload_n hx hb dX7_close_16 rfl (lv_at hl 2 rfl) ?_
  refine xtop (y := .int (nI (tn a1))) (congrArg Value.int e_a1) ?_
  refine lv_lload_n hx hb dX7_close_17 rfl (lv_at hl 0 rfl) ?_
  refine lv_aload_n hx hb dX7_close_18 rfl (lv_at hl 1 rfl) ?_
  refine lv_iload_n hx hb dX7_close_19 rfl (lv_at hl 2 rfl) ?_
  refine xtop (y := .int (nI (tn a1))) (congrArg Value.int e_a1) ?_
  refine xcvR (As := [.int (nI (tn a1))]) (rest := [.long (fX7_costIn τ (nI (tn a1))), .int (nI (tn a1)), .ref (ad 0 0)]) (v := some (.long (fX7_dueOfReleased τ (tn a1)))) ⟨hx, hb, hml, hown, hts⟩ (mX7_dueOfReleased l lo D E h Pr τ ad fa hR hW (tn a1) (by first | assumption | omega)) (cwV 1 hts gX7_close_X7_dueOfReleased rfl rfl rfl (by decide +kernel) ⟨Nat.le_of_ble_eq_true rfl, Nat.le_of_ble_eq_true rfl⟩) I hR.f0 rfl rfl hl.1 rfl (Nat.le_of_ble_eq_true rfl) dX7_close_20 ⟨Nat.le_of_ble_eq_true rfl, Nat.le_of_ble_eq_true rfl⟩ ?_
  refine W.eq (g2 := F0 m 23 ls [.long (fX7_dueOfReleased τ (tn a1)), .long (fX7_costIn τ (nI (tn a1))), .int (nI (tn a1)), .ref (ad 0 0)]) rfl ?_
  refine lv_lsub hx hb dX7_close_23 ?_
  refine xcvQ (As := [.int (nI (tn a1)), .long ((fX7_costIn τ (nI (tn a1))) - (fX7_dueOfReleased τ (tn a1)))]) (rest := []) ⟨hx, hb, hml, hown, hts⟩ (mX7_share l lo D E h Pr τ ad fa hR hW (tn a1) ((fX7_costIn τ (nI (tn a1))) - (fX7_dueOfReleased τ (tn a1))) (by first | assumption | omega)) (cwV 2 hts gX7_close_X7_share rfl rfl rfl (by decide +kernel) ⟨Nat.le_of_ble_eq_true rfl, Nat.le_of_ble_eq_true rfl⟩) I hS hR.f0 rfl rfl hl.1 rfl (Nat.le_of_ble_eq_true rfl) dX7_close_24 ⟨Nat.le_of_ble_eq_true rfl, Nat.le_of_ble_eq_true rfl⟩ (fun v9 hw H locs q9 I hS => ?_)
  obtain ⟨q1, hR, hF9, hW⟩ := q9
  subst q1
  have hF := cF.tr hF hF9
  refine W.eq (g2 := F0 m 27 ls []) rfl ?_
  refine lv_iconst (v := (nI 0)) hx hb dX7_close_27 (by decide) ?_
  refine lv_istore (lv' := [(4, .int (nI 0)), (2, .long (fX7_costIn τ (nI (tn a1)))), (0, .ref (ad 0 0)), (1, .int a1)]) hx hb dX7_close_28 hl (by decide) rfl (fun ls hl => ?_)
  have L30 : ∀ (n30 : Nat) (k30 : Nat) (τ30 : CT), k30 + n30 = cN τ30 3 → ∀ (H : Heap) (locs : List Loc) (hw : XW), XI lo D E hw s H → RC E Pr τ30 ad fa hw → cF Pr h hw → va_S (xA lo) s.heap H locs → CW τ30 → fX7_close_L30 τ a1 n30 k30 τ30 = G → ∀ ls : Array Slot, lv_has ls 5 [(0, .ref (ad 0 0)), (1, .int a1), (2, .long (fX7_costIn τ (nI (tn a1)))), (4, .int (nI k30))] → W p l e (headSpec wsX7_close ({ frames := 8, cells := 3, slots := 18, locals := 153 } : Room)).room s m ([.ref (ad 0 0), .int a1] : List Value).toArray below meth c H locs 3 18 (vx_MQ below (xQ lo D (fun v h' => ∃ x, G = .inr x ∧ v = some (.long x.1) ∧ RC E Pr (x.2) ad fa h' ∧ cF Pr h h' ∧ CW x.2)) (xXp lo D h (fun En => G = .inl En)) ([.ref (ad 0 0), .int a1] : List Value).toArray s 3 18 (xA lo)) (F0 m 30 ls []) := by
    intro n30
    induction n30 with
    | zero =>
      intro k30 τ30 hkn H locs hw I hR hF hS hW hG ls hl
      have hkN : k30 = cN τ30 3 := by omega
      have wf30 := hW.1
      have hG : (Sum.inr ((fX7_costIn τ (nI (tn a1))), (cSI τ30 33 (tn a1) (nI 1)))) = G := hG
      refine lv_iload hx hb dX7_close_30 (lv_at hl 3 rfl) ?_
      refine lv_aload_n hx hb dX7_close_32 rfl (lv_at hl 0 rfl) ?_
      refine xget (C := RX7) (T := TX7) (N := 14) 10 hx hb hts hin7 hown I hR.f0 rfl (by decide) (List.mem_of_getElem? (i := 1) rfl) rfl rfl dX7_close_33 ?_
      refine lv_icmp_ge (tgt := 86) hx hb dX7_close_36 (by decide) (fun _ => ?_) (fun q => absurd (nI_le (Nat.le_of_eq hkN.symm) (by omega)) q)
      refine lv_aload_n hx hb dX7_close_86 rfl (lv_at hl 0 rfl) ?_
      refine xget (C := RX7) (T := TX7) (N := 14) 5 hx hb hts hin7 hown I hR.f0 rfl (by decide) (List.mem_of_getElem? (i := 6) rfl) rfl rfl dX7_close_87 ?_
      refine lv_iload_n hx hb dX7_close_90 rfl (lv_at hl 1 rfl) ?_
      refine xtop (y := .int (nI (tn a1))) (congrArg Value.int e_a1) ?_
      refine xaald (i := (tn a1)) (n := 20) 8 hx hb I rfl hR.f6 (by omega) (by decide) (hR.2.2.2.2.2.2.2.2.2 (tn a1) (show tn a1 < 20 by first | assumption | omega)) dX7_close_91 ?_
      refine W.eq (g2 := F0 m 92 ls [.ref (ad 18 (tn a1))]) rfl ?_
      refine lv_iconst (v := (nI 1)) hx hb dX7_close_92 (by decide) ?_
      refine xputC 2 hx hb hts hin6 tyX6 tyX6_ok nmX6 hown I hS hF (hR.f18 (show tn a1 < 20 by first | assumption | omega)) rfl (by decide) (List.mem_of_getElem? (i := 7) rfl) rfl rfl rfl rfl rfl (Nat.le_of_ble_eq_true rfl) (hR.p18_2 (show tn a1 < 20 by first | assumption | omega) (nI 1)) (hR.2.2.1 18 (tn a1) (show tn a1 < 20 by first | assumption | omega)) dX7_close_93 (fun H locs hw I hR hF hS => ?_)
      have hR : RC E Pr (cSI τ30 33 (tn a1) (nI 1)) ad fa hw := hR
      have hW : CW (cSI τ30 33 (tn a1) (nI 1)) := hW.sB 33 (tn a1) (Or.inr rfl)
      refine lv_lload_n hx hb dX7_close_96 rfl (lv_at hl 2 rfl) ?_
      exact xrlX hx hb hr hlocks dX7_close_97 I hS ⟨_, hG.symm, rfl, hR, hF, hW⟩ (Nat.le_of_ble_eq_true rfl) (Nat.le_of_ble_eq_true rfl)
    | succ n30 ih =>
      intro k30 τ30 hkn H locs hw I hR hF hS hW hG ls hl
      have hk : k30 < cN τ30 3 := by omega
      have wf30 := hW.1
      have hG : lseq ((if (nI ((cK τ30 16 (cK τ30 13 k30)) / 100)) = (nI (tn a1)) then (cSI τ30 28 k30 (fX7_isCovered τ30 k30)) else τ30)) (fun q => fX7_close_L30 τ a1 n30 (k30 + 1) q) = G := hG
      refine lv_iload hx hb dX7_close_30 (lv_at hl 3 rfl) ?_
      refine lv_aload_n hx hb dX7_close_32 rfl (lv_at hl 0 rfl) ?_
      refine xget (C := RX7) (T := TX7) (N := 14) 10 hx hb hts hin7 hown I hR.f0 rfl (by decide) (List.mem_of_getElem? (i := 1) rfl) rfl rfl dX7_close_33 ?_
      refine lv_icmp_ge (tgt := 86) hx hb dX7_close_36 (by decide) (fun q => absurd q (nI_ge hk (by omega))) (fun _ => ?_)
      refine lv_aload_n hx hb dX7_close_39 rfl (lv_at hl 0 rfl) ?_
      refine xget (C := RX7) (T := TX7) (N := 14) 3 hx hb hts hin7 hown I hR.f0 rfl (by decide) (List.mem_of_getElem? (i := 2) rfl) rfl rfl dX7_close_40 ?_
      refine lv_iload hx hb dX7_close_43 (lv_at hl 3 rfl) ?_
      refine xaald (i := k30) (n := 60) 6 hx hb I rfl hR.f4 (by omega) (by decide) (hR.2.2.2.2.2.2.2.1 k30 (show k30 < cN τ30 3 by first | assumption | omega)) dX7_close_45 ?_
      refine W.eq (g2 := F0 m 46 ls [.ref (ad 16 k30)]) rfl ?_
      refine xget (C := RX0) (T := TX0) (N := 8) 2 hx hb hts hin0 hown I (hR.f16 (show k30 < cN τ30 3 by first | assumption | omega)) rfl (by decide) (List.mem_of_getElem? (i := 3) rfl) rfl rfl dX7_close_46 ?_
      have b46_13 : cK τ30 13 k30 < cN τ30 4 := hW.2.2.2.2.1 k30 (show k30 < cN τ30 3 by first | assumption | omega)
      refine xget (C := RX2) (T := TX2) (N := 3) 1 hx hb hts hin2 hown I (hR.f17 (show cK τ30 13 k30 < cN τ30 4 by first | assumption | omega)) rfl (by decide) (List.mem_of_getElem? (i := 4) rfl) rfl rfl dX7_close_49 ?_
      have b49_16 : cK τ30 16 (cK τ30 13 k30) < 2000 := hW.2.2.2.2.2.2.2.1 (cK τ30 13 k30) (show cK τ30 13 k30 < cN τ30 4 by first | assumption | omega)
      refine xcsR (As := [.int (nI (cK τ30 16 (cK τ30 13 k30)))]) (rest := []) (v := some (.int (nI ((cK τ30 16 (cK τ30 13 k30)) / 100)))) ⟨hx, hb, hml, hown, hts⟩ (mX7_yearOfDay l lo D E hw (cK τ30 16 (cK τ30 13 k30)) (by first | assumption | omega)) (va_cwS 1 hts gX7_close_X7_yearOfDay rfl rfl rfl (by decide +kernel) ⟨Nat.le_of_ble_eq_true rfl, Nat.le_of_ble_eq_true rfl⟩) I rfl hl.1 rfl (Nat.le_of_ble_eq_true rfl) dX7_close_52 ⟨Nat.le_of_ble_eq_true rfl, Nat.le_of_ble_eq_true rfl⟩ ?_
      refine W.eq (g2 := F0 m 55 ls [.int (nI ((cK τ30 16 (cK τ30 13 k30)) / 100))]) rfl ?_
      refine lv_iload_n hx hb dX7_close_55 rfl (lv_at hl 1 rfl) ?_
      refine xtop (y := .int (nI (tn a1))) (congrArg Value.int e_a1) ?_
      refine lv_icmp_ne (tgt := 80) hx hb dX7_close_56 (by decide) (fun c_56 => ?_) (fun c_56 => ?_)
      · skip
        rw [if_neg c_56] at hG
        refine lv_iinc (v := (nI (k30 + 1))) (lv' := [(4, .int (nI (k30 + 1))), (0, .ref (ad 0 0)), (1, .int a1), (2, .long (fX7_costIn τ (nI (tn a1))))]) hx hb dX7_close_80 hl (k := 3) rfl (nI_succ k30).symm (by decide) rfl (fun ls hl => ?_)
        refine lv_goto (tgt := 30) hx hb dX7_close_83 (by decide) ?_
        exact ih (k30 + 1) τ30 (by first | omega | (simp only [cSI_N, cSL_N, cSM_N, cSD_N]; omega)) H locs hw I hR hF hS hW hG ls (lv_sub hl [1, 2, 3, 0] rfl)
      · skip
        rw [if_pos c_56] at hG
        refine lv_aload_n hx hb dX7_close_59 rfl (lv_at hl 0 rfl) ?_
        refine xget (C := RX7) (T := TX7) (N := 14) 3 hx hb hts hin7 hown I hR.f0 rfl (by decide) (List.mem_of_getElem? (i := 2) rfl) rfl rfl dX7_close_60 ?_
        refine lv_iload hx hb dX7_close_63 (lv_at hl 3 rfl) ?_
        refine xaald (i := k30) (n := 60) 6 hx hb I rfl hR.f4 (by omega) (by decide) (hR.2.2.2.2.2.2.2.1 k30 (show k30 < cN τ30 3 by first | assumption | omega)) dX7_close_65 ?_
        refine W.eq (g2 := F0 m 66 ls [.ref (ad 16 k30)]) rfl ?_
        refine lv_aload_n hx hb dX7_close_66 rfl (lv_at hl 0 rfl) ?_
        refine lv_aload_n hx hb dX7_close_67 rfl (lv_at hl 0 rfl) ?_
        refine xget (C := RX7) (T := TX7) (N := 14) 3 hx hb hts hin7 hown I hR.f0 rfl (by decide) (List.mem_of_getElem? (i := 2) rfl) rfl rfl dX7_close_68 ?_
        refine lv_iload hx hb dX7_close_71 (lv_at hl 3 rfl) ?_
        refine xaald (i := k30) (n := 60) 6 hx hb I rfl hR.f4 (by omega) (by decide) (hR.2.2.2.2.2.2.2.1 k30 (show k30 < cN τ30 3 by first | assumption | omega)) dX7_close_73 ?_
        refine W.eq (g2 := F0 m 74 ls [.ref (ad 16 k30), .ref (ad 0 0), .ref (ad 16 k30)]) rfl ?_
        refine xcvR (As := [.ref (ad 16 k30)]) (rest := [.ref (ad 16 k30)]) (v := some (.int (fX7_isCovered τ30 k30))) ⟨hx, hb, hml, hown, hts⟩ (mX7_isCovered l lo D E hw Pr τ30 ad fa hR hW k30 (show k30 < cN τ30 3 by first | assumption | omega)) (cwV 1 hts gX7_close_X7_isCovered rfl rfl rfl (by decide +kernel) ⟨Nat.le_of_ble_eq_true rfl, Nat.le_of_ble_eq_true rfl⟩) I hR.f0 rfl rfl hl.1 rfl (Nat.le_of_ble_eq_true rfl) dX7_close_74 ⟨Nat.le_of_ble_eq_true rfl, Nat.le_of_ble_eq_true rfl⟩ ?_
        refine W.eq (g2 := F0 m 77 ls [.int (fX7_isCovered τ30 k30), .ref (ad 16 k30)]) rfl ?_
        refine xputC 7 hx hb hts hin0 tyX0 tyX0_ok nmX0 hown I hS hF (hR.f16 (show k30 < cN τ30 3 by first | assumption | omega)) rfl (by decide) (List.mem_of_getElem? (i := 5) rfl) rfl rfl rfl (xnb (zX7_isCovered τ30 hW k30)) (xfit (zX7_isCovered τ30 hW k30)) (Nat.le_of_ble_eq_true rfl) (hR.p16_7 (show k30 < cN τ30 3 by first | assumption | omega) (fX7_isCovered τ30 k30)) (hR.2.2.1 16 k30 (show k30 < cN τ30 3 by first | assumption | omega)) dX7_close_77 (fun H locs hw I hR hF hS => ?_)
        have hR : RC E Pr (cSI τ30 28 k30 (fX7_isCovered τ30 k30)) ad fa hw := hR
        have hW : CW (cSI τ30 28 k30 (fX7_isCovered τ30 k30)) := hW.sB 28 k30 (zX7_isCovered τ30 hW k30)
        refine lv_iinc (v := (nI (k30 + 1))) (lv' := [(4, .int (nI (k30 + 1))), (0, .ref (ad 0 0)), (1, .int a1), (2, .long (fX7_costIn τ (nI (tn a1))))]) hx hb dX7_close_80 hl (k := 3) rfl (nI_succ k30).symm (by decide) rfl (fun ls hl => ?_)
        refine lv_goto (tgt := 30) hx hb dX7_close_83 (by decide) ?_
        exact ih (k30 + 1) (cSI τ30 28 k30 (fX7_isCovered τ30 k30)) (by first | omega | (simp only [cSI_N, cSL_N, cSM_N, cSD_N]; omega)) H locs hw I hR hF hS hW hG ls (lv_sub hl [1, 2, 3, 0] rfl)
  exact L30 (cN (fX7_share τ (tn a1) ((fX7_costIn τ (nI (tn a1))) - (fX7_dueOfReleased τ (tn a1)))) 3) 0 (fX7_share τ (tn a1) ((fX7_costIn τ (nI (tn a1))) - (fX7_dueOfReleased τ (tn a1)))) (by omega) H locs hw I hR hF hS hW hG ls (lv_sub hl [2, 3, 1, 0] rfl)
