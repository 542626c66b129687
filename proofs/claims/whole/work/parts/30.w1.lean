set_option maxHeartbeats 4000000 in
set_option maxRecDepth 100000 in
theorem mL_member (l : Launch) (lo : Nat) (D : va_G) (E : Nat → ClassId) (h : XW) (hlst : l.stackTraces = false) (Pr : Nat → Prop) (τ : CT) (ad : Nat → Nat → Nat) (fa : Nat → Nat → Option Nat) (hR : RC E Pr τ ad fa h) (hW : CW τ) (ou : Nat) (fo : Nat → Int64) (hou : Pr ou) (ho : h ou = some (.inl (E 1, 1, .inr (.inl fo)))) (hE : ∀ En, (wIs (fX7_member τ)) = .inl En → En = "java/lang/IllegalStateException") : Met l yL_member wsL_member ({ frames := 7, cells := 4, slots := 65, locals := 126 } : Room) (xPC lo D E h [.ref (ad 0 0), .ref ou]) (xQ lo D (wQ E Pr h (ad 0 0) ou fo (wIs (fX7_member τ)) ["java/lang/IllegalStateException"])) 4 65 (xA lo) := by
  refine xofWH (cc := cL_member) (maxL := 3) (ret := (some .int)) (hh := [(0, 8, 11, 13)]) (by decide) rfl ?_
  intro p e s m args below meth c s₁ B hml hv
  obtain ⟨rfl, I, hX⟩ := hv
  have hx := B.exec
  have hb := B.bytes
  have hr := B.returns
  have hts := atoms_spec (ws := wsL_member) B.pre
  have hown : s.vm.findClass RL = some m.cls := findClass_of_methodNamed B.named
  have hlocks := B.notSynchronized
  have hl := lv_entry ([.ref (ad 0 0), .ref ou] : List Value) (n := 3) (Nat.le_of_ble_eq_true rfl)
  rw [lg_entry_eq]
  generalize (lg_sl ([.ref (ad 0 0), .ref ou] : List Value) ++ List.replicate (3 - (lg_sl ([.ref (ad 0 0), .ref ou] : List Value)).length) Slot.unset).toArray = ls at hl ⊢
  have hl : lv_has ls 3 [(0, .ref (ad 0 0)), (1, .ref ou)] := hl
  have hS : va_S (xA lo) s.heap s.heap [] := va_S.rf
  refine lv_aload_n hx hb dL_member_0 rfl (lv_at hl 1 rfl) ?_
  refine lv_iconst (v := (nI 0)) hx hb dL_member_1 (by decide) ?_
  refine lv_aload_n hx hb dL_member_2 rfl (lv_at hl 0 rfl) ?_
  refine xcvC (As := []) (rest := [.int (nI 0), .ref ou]) ⟨hx, hb, hml, hown, hts⟩ (mX7_member l lo D E h hlst Pr τ ad fa hR hW) (cwV 0 hts gL_member_X7_member rfl rfl rfl (by decide +kernel) ⟨Nat.le_of_ble_eq_true rfl, Nat.le_of_ble_eq_true rfl⟩) I hS hR.f0 rfl rfl hl.1 rfl (Nat.le_of_ble_eq_true rfl) dL_member_3 ⟨Nat.le_of_ble_eq_true rfl, Nat.le_of_ble_eq_true rfl⟩ (fun v9 hw H locs q9 I hS => ?_) (fun q9 En ce H locs hEn I hS hc1 hc2 hc3 => ?_)
  · skip
    obtain ⟨x9, e9, ad2, fa2, q1, hR2, hF2, hW2, h00⟩ := q9
    subst q1
    refine W.eq (g2 := F0 m 6 ls [.int x9.1, .int (nI 0), .ref ou]) rfl ?_
    refine lv_i2l (v := x9.1.toInt64) hx hb dL_member_6 rfl ?_
    have ho2 : hw ou = some (.inl (E 1, 1, .inr (.inl fo))) := (hF2 ou hou).trans ho
    refine xlast (i := 0) (n := 1) hx hb I hS ho2 (by decide) (by decide) dL_member_7 (fun H locs I hS => ?_)
    have hR3 := hR2.out (e := .inl (E 1, 1, .inr (.inl (vp_updL fo 0 x9.1.toInt64)))) hou
    refine lv_goto (tgt := 14) hx hb dL_member_8 (by decide) ?_
    refine lv_iconst (v := (nI 0)) hx hb dL_member_14 (by decide) ?_
    exact W.widen (Nat.le_of_ble_eq_true rfl) (Nat.le_of_ble_eq_true rfl) (xriQ hx hb hr hlocks dL_member_15 I hS (Or.inr ⟨some x9.1.toInt64, x9.2, (by rw [e9]; simp only [wIs]), rfl, hW2, fun q hq hn => (hset_n hn).trans (hF2 q hq), ⟨ad2, fa2, hR3, h00⟩, hset_s⟩))
  · skip
    have hG : (wIs (fX7_member τ)) = .inl En := by rw [show (fX7_member τ) = .inl En from hEn]; rfl
    have hT := vx_table (x := yL_member) B (hts _ (List.mem_of_getElem? (i := 0) rfl))
    rcases hE En hG with rfl
    · skip
      refine vx_catch (name := "java/lang/IllegalStateException") hown [] ⟨0, 8, 11, 13⟩ [] hT (fun z hz => by simp at hz) (by decide +kernel) (by decide) (hts _ (List.mem_of_getElem? (i := 1) rfl)) (va_Nw.use rfl (hX.1 _ (by decide))) hc1 hc2 hc3 ?_
      refine lv_astore_n (lv' := [(2, .ref q9), (0, .ref (ad 0 0)), (1, .ref ou)]) hx hb dL_member_11 rfl hl (by decide) rfl (fun ls hl => ?_)
      refine lv_iconst (v := (nI 1)) hx hb dL_member_12 (by decide) ?_
      exact W.widen (Nat.le_of_ble_eq_true rfl) (Nat.le_of_ble_eq_true rfl) (xriQ hx hb hr hlocks dL_member_13 I hS (Or.inl ⟨_, _, hG, ⟨rfl, rfl⟩, rfl, rfl⟩))

set_option maxHeartbeats 4000000 in
set_option maxRecDepth 100000 in
theorem mL_ship (l : Launch) (lo : Nat) (D : va_G) (E : Nat → ClassId) (h : XW) (hlst : l.stackTraces = false) (Pr : Nat → Prop) (τ : CT) (ad : Nat → Nat → Nat) (fa : Nat → Nat → Option Nat) (hR : RC E Pr τ ad fa h) (hW : CW τ) (ou : Nat) (fo : Nat → Int64) (hou : Pr ou) (ho : h ou = some (.inl (E 1, 1, .inr (.inl fo)))) (a1 : Int32) (a2 : Int32) (hE : ∀ En, (wIs (fX7_ship τ a1 a2)) = .inl En → En = "java/lang/IndexOutOfBoundsException" ∨ En = "java/lang/IllegalArgumentException" ∨ En = "java/lang/IllegalStateException") : Met l yL_ship wsL_ship ({ frames := 8, cells := 3, slots := 18, locals := 151 } : Room) (xPC lo D E h [.ref (ad 0 0), .int a1, .int a2, .ref ou]) (xQ lo D (wQ E Pr h (ad 0 0) ou fo (wIs (fX7_ship τ a1 a2)) ["java/lang/IndexOutOfBoundsException", "java/lang/IllegalArgumentException", "java/lang/IllegalStateException"])) 3 18 (xA lo) := by
  refine xofWH (cc := cL_ship) (maxL := 5) (ret := (some .int)) (hh := [(0, 10, 13, 19), (0, 10, 17, 21), (0, 10, 21, 13)]) (by decide) rfl ?_
  intro p e s m args below meth c s₁ B hml hv
  obtain ⟨rfl, I, hX⟩ := hv
  have hx := B.exec
  have hb := B.bytes
  have hr := B.returns
  have hts := atoms_spec (ws := wsL_ship) B.pre
  have hown : s.vm.findClass RL = some m.cls := findClass_of_methodNamed B.named
  have hlocks := B.notSynchronized
  have hl := lv_entry ([.ref (ad 0 0), .int a1, .int a2, .ref ou] : List Value) (n := 5) (Nat.le_of_ble_eq_true rfl)
  rw [lg_entry_eq]
  generalize (lg_sl ([.ref (ad 0 0), .int a1, .int a2, .ref ou] : List Value) ++ List.replicate (5 - (lg_sl ([.ref (ad 0 0), .int a1, .int a2, .ref ou] : List Value)).length) Slot.unset).toArray = ls at hl ⊢
  have hl : lv_has ls 5 [(0, .ref (ad 0 0)), (1, .int a1), (2, .int a2), (3, .ref ou)] := hl
  have hS : va_S (xA lo) s.heap s.heap [] := va_S.rf
  refine lv_aload_n hx hb dL_ship_0 rfl (lv_at hl 3 rfl) ?_
  refine lv_iconst (v := (nI 0)) hx hb dL_ship_1 (by decide) ?_
  refine lv_aload_n hx hb dL_ship_2 rfl (lv_at hl 0 rfl) ?_
  refine lv_iload_n hx hb dL_ship_3 rfl (lv_at hl 1 rfl) ?_
  refine lv_iload_n hx hb dL_ship_4 rfl (lv_at hl 2 rfl) ?_
  refine xcvC (As := [.int a1, .int a2]) (rest := [.int (nI 0), .ref ou]) ⟨hx, hb, hml, hown, hts⟩ (mX7_ship l lo D E h hlst Pr τ ad fa hR hW a1 a2) (cwV 2 hts gL_ship_X7_ship rfl rfl rfl (by decide +kernel) ⟨Nat.le_of_ble_eq_true rfl, Nat.le_of_ble_eq_true rfl⟩) I hS hR.f0 rfl rfl hl.1 rfl (Nat.le_of_ble_eq_true rfl) dL_ship_5 ⟨Nat.le_of_ble_eq_true rfl, Nat.le_of_ble_eq_true rfl⟩ (fun v9 hw H locs q9 I hS => ?_) (fun q9 En ce H locs hEn I hS hc1 hc2 hc3 => ?_)
  · skip
    obtain ⟨x9, e9, ad2, fa2, q1, hR2, hF2, hW2, h00⟩ := q9
    subst q1
    refine W.eq (g2 := F0 m 8 ls [.int x9.1, .int (nI 0), .ref ou]) rfl ?_
    refine lv_i2l (v := x9.1.toInt64) hx hb dL_ship_8 rfl ?_
    have ho2 : hw ou = some (.inl (E 1, 1, .inr (.inl fo))) := (hF2 ou hou).trans ho
    refine xlast (i := 0) (n := 1) hx hb I hS ho2 (by decide) (by decide) dL_ship_9 (fun H locs I hS => ?_)
    have hR3 := hR2.out (e := .inl (E 1, 1, .inr (.inl (vp_updL fo 0 x9.1.toInt64)))) hou
    refine lv_goto (tgt := 25) hx hb dL_ship_10 (by decide) ?_
    refine lv_iconst (v := (nI 0)) hx hb dL_ship_25 (by decide) ?_
    exact W.widen (Nat.le_of_ble_eq_true rfl) (Nat.le_of_ble_eq_true rfl) (xriQ hx hb hr hlocks dL_ship_26 I hS (Or.inr ⟨some x9.1.toInt64, x9.2, (by rw [e9]; simp only [wIs]), rfl, hW2, fun q hq hn => (hset_n hn).trans (hF2 q hq), ⟨ad2, fa2, hR3, h00⟩, hset_s⟩))
  · skip
    have hG : (wIs (fX7_ship τ a1 a2)) = .inl En := by rw [show (fX7_ship τ a1 a2) = .inl En from hEn]; rfl
    have hT := vx_table (x := yL_ship) B (hts _ (List.mem_of_getElem? (i := 0) rfl))
    rcases hE En hG with rfl | rfl | rfl
    · skip
      refine vx_catch (name := "java/lang/IndexOutOfBoundsException") hown [] ⟨0, 10, 13, 19⟩ [⟨0, 10, 17, 21⟩, ⟨0, 10, 21, 13⟩] hT (fun z hz => by simp at hz) (by decide +kernel) (by decide) (hts _ (List.mem_of_getElem? (i := 1) rfl)) (va_Nw.use rfl (hX.1 _ (by decide))) hc1 hc2 hc3 ?_
      refine lv_astore (lv' := [(4, .ref q9), (0, .ref (ad 0 0)), (1, .int a1), (2, .int a2), (3, .ref ou)]) hx hb dL_ship_13 hl (by decide) rfl (fun ls hl => ?_)
      refine lv_iconst (v := (nI 1)) hx hb dL_ship_15 (by decide) ?_
      exact W.widen (Nat.le_of_ble_eq_true rfl) (Nat.le_of_ble_eq_true rfl) (xriQ hx hb hr hlocks dL_ship_16 I hS (Or.inl ⟨_, _, hG, Or.inl ⟨rfl, rfl⟩, rfl, rfl⟩))
    · skip
      refine vx_catch (name := "java/lang/IllegalArgumentException") hown [⟨0, 10, 13, 19⟩] ⟨0, 10, 17, 21⟩ [⟨0, 10, 21, 13⟩] hT (fun z hz => by
          rcases List.mem_singleton.mp hz with rfl
          exact Or.inr ⟨(by decide), "java/lang/IndexOutOfBoundsException", hts _ (List.mem_of_getElem? (i := 1) rfl), hX.2 _ (by decide) _ (by decide) (by decide)⟩) (by decide +kernel) (by decide) (hts _ (List.mem_of_getElem? (i := 2) rfl)) (va_Nw.use rfl (hX.1 _ (by decide))) hc1 hc2 hc3 ?_
      refine lv_astore (lv' := [(4, .ref q9), (0, .ref (ad 0 0)), (1, .int a1), (2, .int a2), (3, .ref ou)]) hx hb dL_ship_17 hl (by decide) rfl (fun ls hl => ?_)
      refine lv_iconst (v := (nI 2)) hx hb dL_ship_19 (by decide) ?_
      exact W.widen (Nat.le_of_ble_eq_true rfl) (Nat.le_of_ble_eq_true rfl) (xriQ hx hb hr hlocks dL_ship_20 I hS (Or.inl ⟨_, _, hG, Or.inr (Or.inl ⟨rfl, rfl⟩), rfl, rfl⟩))
    · skip
      refine vx_catch (name := "java/lang/IllegalStateException") hown [⟨0, 10, 13, 19⟩, ⟨0, 10, 17, 21⟩] ⟨0, 10, 21, 13⟩ [] hT (fun z hz => by
          rcases List.mem_cons.mp hz with rfl | hz
          · exact Or.inr ⟨(by decide), "java/lang/IndexOutOfBoundsException", hts _ (List.mem_of_getElem? (i := 1) rfl), hX.2 _ (by decide) _ (by decide) (by decide)⟩
          · rcases List.mem_singleton.mp hz with rfl
            exact Or.inr ⟨(by decide), "java/lang/IllegalArgumentException", hts _ (List.mem_of_getElem? (i := 2) rfl), hX.2 _ (by decide) _ (by decide) (by decide)⟩) (by decide +kernel) (by decide) (hts _ (List.mem_of_getElem? (i := 3) rfl)) (va_Nw.use rfl (hX.1 _ (by decide))) hc1 hc2 hc3 ?_
      refine lv_astore (lv' := [(4, .ref q9), (0, .ref (ad 0 0)), (1, .int a1), (2, .int a2), (3, .ref ou)]) hx hb dL_ship_21 hl (by decide) rfl (fun ls hl => ?_)
      refine lv_iconst (v := (nI 3)) hx hb dL_ship_23 (by decide) ?_
      exact W.widen (Nat.le_of_ble_eq_true rfl) (Nat.le_of_ble_eq_true rfl) (xriQ hx hb hr hlocks dL_ship_24 I hS (Or.inl ⟨_, _, hG, Or.inr (Or.inr ⟨rfl, rfl⟩), rfl, rfl⟩))

set_option maxHeartbeats 4000000 in
set_option maxRecDepth 100000 in
theorem mL_enter (l : Launch) (lo : Nat) (D : va_G) (E : Nat → ClassId) (h : XW) (hlst : l.stackTraces = false) (Pr : Nat → Prop) (τ : CT) (ad : Nat → Nat → Nat) (fa : Nat → Nat → Option Nat) (hR : RC E Pr τ ad fa h) (hW : CW τ) (ou : Nat) (fo : Nat → Int64) (hou : Pr ou) (ho : h ou = some (.inl (E 1, 1, .inr (.inl fo)))) (a1 : Int32) (hE : ∀ En, (wVs (fX7_enter τ a1)) = .inl En → En = "java/lang/IndexOutOfBoundsException" ∨ En = "java/lang/IllegalStateException") : Met l yL_enter wsL_enter ({ frames := 8, cells := 2, slots := 12, locals := 150 } : Room) (xPC lo D E h [.ref (ad 0 0), .int a1]) (xQ lo D (wQ E Pr h (ad 0 0) ou fo (wVs (fX7_enter τ a1)) ["java/lang/IndexOutOfBoundsException", "java/lang/IllegalStateException"])) 2 12 (xA lo) := by
  refine xofWH (cc := cL_enter) (maxL := 3) (ret := (some .int)) (hh := [(0, 5, 8, 19), (0, 5, 11, 13)]) (by decide) rfl ?_
  intro p e s m args below meth c s₁ B hml hv
  obtain ⟨rfl, I, hX⟩ := hv
  have hx := B.exec
  have hb := B.bytes
  have hr := B.returns
  have hts := atoms_spec (ws := wsL_enter) B.pre
  have hown : s.vm.findClass RL = some m.cls := findClass_of_methodNamed B.named
  have hlocks := B.notSynchronized
  have hl := lv_entry ([.ref (ad 0 0), .int a1] : List Value) (n := 3) (Nat.le_of_ble_eq_true rfl)
  rw [lg_entry_eq]
  generalize (lg_sl ([.ref (ad 0 0), .int a1] : List Value) ++ List.replicate (3 - (lg_sl ([.ref (ad 0 0), .int a1] : List Value)).length) Slot.unset).toArray = ls at hl ⊢
  have hl : lv_has ls 3 [(0, .ref (ad 0 0)), (1, .int a1)] := hl
  have hS : va_S (xA lo) s.heap s.heap [] := va_S.rf
  refine lv_aload_n hx hb dL_enter_0 rfl (lv_at hl 0 rfl) ?_
  refine lv_iload_n hx hb dL_enter_1 rfl (lv_at hl 1 rfl) ?_
  refine xcvC (As := [.int a1]) (rest := []) ⟨hx, hb, hml, hown, hts⟩ (mX7_enter l lo D E h hlst Pr τ ad fa hR hW a1) (cwV 1 hts gL_enter_X7_enter rfl rfl rfl (by decide +kernel) ⟨Nat.le_of_ble_eq_true rfl, Nat.le_of_ble_eq_true rfl⟩) I hS hR.f0 rfl rfl hl.1 rfl (Nat.le_of_ble_eq_true rfl) dL_enter_2 ⟨Nat.le_of_ble_eq_true rfl, Nat.le_of_ble_eq_true rfl⟩ (fun v9 hw H locs q9 I hS => ?_) (fun q9 En ce H locs hEn I hS hc1 hc2 hc3 => ?_)
  · skip
    obtain ⟨x9, e9, ad2, fa2, q1, hR2, hF2, hW2, h00⟩ := q9
    subst q1
    have hR3 := hR2
    refine lv_goto (tgt := 14) hx hb dL_enter_5 (by decide) ?_
    refine lv_iconst (v := (nI 0)) hx hb dL_enter_14 (by decide) ?_
    exact W.widen (Nat.le_of_ble_eq_true rfl) (Nat.le_of_ble_eq_true rfl) (xriQ hx hb hr hlocks dL_enter_15 I hS (Or.inr ⟨none, x9, (by rw [e9]; simp only [wVs]), rfl, hW2, fun q hq hn => hF2 q hq, ⟨ad2, fa2, hR3, h00⟩, (hF2 ou hou).trans ho⟩))
  · skip
    have hG : (wVs (fX7_enter τ a1)) = .inl En := by rw [show (fX7_enter τ a1) = .inl En from hEn]; rfl
    have hT := vx_table (x := yL_enter) B (hts _ (List.mem_of_getElem? (i := 0) rfl))
    rcases hE En hG with rfl | rfl
    · skip
      refine vx_catch (name := "java/lang/IndexOutOfBoundsException") hown [] ⟨0, 5, 8, 19⟩ [⟨0, 5, 11, 13⟩] hT (fun z hz => by simp at hz) (by decide +kernel) (by decide) (hts _ (List.mem_of_getElem? (i := 1) rfl)) (va_Nw.use rfl (hX.1 _ (by decide))) hc1 hc2 hc3 ?_
      refine lv_astore_n (lv' := [(2, .ref q9), (0, .ref (ad 0 0)), (1, .int a1)]) hx hb dL_enter_8 rfl hl (by decide) rfl (fun ls hl => ?_)
      refine lv_iconst (v := (nI 1)) hx hb dL_enter_9 (by decide) ?_
      exact W.widen (Nat.le_of_ble_eq_true rfl) (Nat.le_of_ble_eq_true rfl) (xriQ hx hb hr hlocks dL_enter_10 I hS (Or.inl ⟨_, _, hG, Or.inl ⟨rfl, rfl⟩, rfl, rfl⟩))
    · skip
      refine vx_catch (name := "java/lang/IllegalStateException") hown [⟨0, 5, 8, 19⟩] ⟨0, 5, 11, 13⟩ [] hT (fun z hz => by
          rcases List.mem_singleton.mp hz with rfl
          exact Or.inr ⟨(by decide), "java/lang/IndexOutOfBoundsException", hts _ (List.mem_of_getElem? (i := 1) rfl), hX.2 _ (by decide) _ (by decide) (by decide)⟩) (by decide +kernel) (by decide) (hts _ (List.mem_of_getElem? (i := 2) rfl)) (va_Nw.use rfl (hX.1 _ (by decide))) hc1 hc2 hc3 ?_
      refine lv_astore_n (lv' := [(2, .ref q9), (0, .ref (ad 0 0)), (1, .int a1)]) hx hb dL_enter_11 rfl hl (by decide) rfl (fun ls hl => ?_)
      refine lv_iconst (v := (nI 2)) hx hb dL_enter_12 (by decide) ?_
      exact W.widen (Nat.le_of_ble_eq_true rfl) (Nat.le_of_ble_eq_true rfl) (xriQ hx hb hr hlocks dL_enter_13 I hS (Or.inl ⟨_, _, hG, Or.inr ⟨rfl, rfl⟩, rfl, rfl⟩))

set_option maxHeartbeats 4000000 in
set_option maxRecDepth 100000 in
theorem mL_leave (l : Launch) (lo : Nat) (D : va_G) (E : Nat → ClassId) (h : XW) (hlst : l.stackTraces = false) (Pr : Nat → Prop) (τ : CT) (ad : Nat → Nat → Nat) (fa : Nat → Nat → Option Nat) (hR : RC E Pr τ ad fa h) (hW : CW τ) (ou : Nat) (fo : Nat → Int64) (hou : Pr ou) (ho : h ou = some (.inl (E 1, 1, .inr (.inl fo)))) (a1 : Int32) (hE : ∀ En, (wIs (fX7_leave τ a1)) = .inl En → En = "java/lang/IndexOutOfBoundsException" ∨ En = "java/lang/IllegalStateException") : Met l yL_leave wsL_leave ({ frames := 8, cells := 2, slots := 12, locals := 150 } : Room) (xPC lo D E h [.ref (ad 0 0), .int a1, .ref ou]) (xQ lo D (wQ E Pr h (ad 0 0) ou fo (wIs (fX7_leave τ a1)) ["java/lang/IndexOutOfBoundsException", "java/lang/IllegalStateException"])) 2 12 (xA lo) := by
  refine xofWH (cc := cL_leave) (maxL := 4) (ret := (some .int)) (hh := [(0, 9, 12, 19), (0, 9, 15, 13)]) (by decide) rfl ?_
  intro p e s m args below meth c s₁ B hml hv
  obtain ⟨rfl, I, hX⟩ := hv
  have hx := B.exec
  have hb := B.bytes
  have hr := B.returns
  have hts := atoms_spec (ws := wsL_leave) B.pre
  have hown : s.vm.findClass RL = some m.cls := findClass_of_methodNamed B.named
  have hlocks := B.notSynchronized
  have hl := lv_entry ([.ref (ad 0 0), .int a1, .ref ou] : List Value) (n := 4) (Nat.le_of_ble_eq_true rfl)
  rw [lg_entry_eq]
  generalize (lg_sl ([.ref (ad 0 0), .int a1, .ref ou] : List Value) ++ List.replicate (4 - (lg_sl ([.ref (ad 0 0), .int a1, .ref ou] : List Value)).length) Slot.unset).toArray = ls at hl ⊢
  have hl : lv_has ls 4 [(0, .ref (ad 0 0)), (1, .int a1), (2, .ref ou)] := hl
  have hS : va_S (xA lo) s.heap s.heap [] := va_S.rf
  refine lv_aload_n hx hb dL_leave_0 rfl (lv_at hl 2 rfl) ?_
  refine lv_iconst (v := (nI 0)) hx hb dL_leave_1 (by decide) ?_
  refine lv_aload_n hx hb dL_leave_2 rfl (lv_at hl 0 rfl) ?_
  refine lv_iload_n hx hb dL_leave_3 rfl (lv_at hl 1 rfl) ?_
  refine xcvC (As := [.int a1]) (rest := [.int (nI 0), .ref ou]) ⟨hx, hb, hml, hown, hts⟩ (mX7_leave l lo D E h hlst Pr τ ad fa hR hW a1) (cwV 1 hts gL_leave_X7_leave rfl rfl rfl (by decide +kernel) ⟨Nat.le_of_ble_eq_true rfl, Nat.le_of_ble_eq_true rfl⟩) I hS hR.f0 rfl rfl hl.1 rfl (Nat.le_of_ble_eq_true rfl) dL_leave_4 ⟨Nat.le_of_ble_eq_true rfl, Nat.le_of_ble_eq_true rfl⟩ (fun v9 hw H locs q9 I hS => ?_) (fun q9 En ce H locs hEn I hS hc1 hc2 hc3 => ?_)
  · skip
    obtain ⟨x9, e9, q1, hR2, hF2, hW2⟩ := q9
    subst q1
    refine W.eq (g2 := F0 m 7 ls [.int x9.1, .int (nI 0), .ref ou]) rfl ?_
    refine lv_i2l (v := x9.1.toInt64) hx hb dL_leave_7 rfl ?_
    have ho2 : hw ou = some (.inl (E 1, 1, .inr (.inl fo))) := (hF2 ou hou).trans ho
    refine xlast (i := 0) (n := 1) hx hb I hS ho2 (by decide) (by decide) dL_leave_8 (fun H locs I hS => ?_)
    have hR3 := hR2.out (e := .inl (E 1, 1, .inr (.inl (vp_updL fo 0 x9.1.toInt64)))) hou
    refine lv_goto (tgt := 18) hx hb dL_leave_9 (by decide) ?_
    refine lv_iconst (v := (nI 0)) hx hb dL_leave_18 (by decide) ?_
    exact W.widen (Nat.le_of_ble_eq_true rfl) (Nat.le_of_ble_eq_true rfl) (xriQ hx hb hr hlocks dL_leave_19 I hS (Or.inr ⟨some x9.1.toInt64, x9.2, (by rw [e9]; simp only [wIs]), rfl, hW2, fun q hq hn => (hset_n hn).trans (hF2 q hq), ⟨ad, fa, hR3, rfl⟩, hset_s⟩))
  · skip
    have hG : (wIs (fX7_leave τ a1)) = .inl En := by rw [show (fX7_leave τ a1) = .inl En from hEn]; rfl
    have hT := vx_table (x := yL_leave) B (hts _ (List.mem_of_getElem? (i := 0) rfl))
    rcases hE En hG with rfl | rfl
    · skip
      refine vx_catch (name := "java/lang/IndexOutOfBoundsException") hown [] ⟨0, 9, 12, 19⟩ [⟨0, 9, 15, 13⟩] hT (fun z hz => by simp at hz) (by decide +kernel) (by decide) (hts _ (List.mem_of_getElem? (i := 1) rfl)) (va_Nw.use rfl (hX.1 _ (by decide))) hc1 hc2 hc3 ?_
      refine lv_astore_n (lv' := [(3, .ref q9), (0, .ref (ad 0 0)), (1, .int a1), (2, .ref ou)]) hx hb dL_leave_12 rfl hl (by decide) rfl (fun ls hl => ?_)
      refine lv_iconst (v := (nI 1)) hx hb dL_leave_13 (by decide) ?_
      exact W.widen (Nat.le_of_ble_eq_true rfl) (Nat.le_of_ble_eq_true rfl) (xriQ hx hb hr hlocks dL_leave_14 I hS (Or.inl ⟨_, _, hG, Or.inl ⟨rfl, rfl⟩, rfl, rfl⟩))
    · skip
      refine vx_catch (name := "java/lang/IllegalStateException") hown [⟨0, 9, 12, 19⟩] ⟨0, 9, 15, 13⟩ [] hT (fun z hz => by
          rcases List.mem_singleton.mp hz with rfl
          exact Or.inr ⟨(by decide), "java/lang/IndexOutOfBoundsException", hts _ (List.mem_of_getElem? (i := 1) rfl), hX.2 _ (by decide) _ (by decide) (by decide)⟩) (by decide +kernel) (by decide) (hts _ (List.mem_of_getElem? (i := 2) rfl)) (va_Nw.use rfl (hX.1 _ (by decide))) hc1 hc2 hc3 ?_
      refine lv_astore_n (lv' := [(3, .ref q9), (0, .ref (ad 0 0)), (1, .int a1), (2, .ref ou)]) hx hb dL_leave_15 rfl hl (by decide) rfl (fun ls hl => ?_)
      refine lv_iconst (v := (nI 2)) hx hb dL_leave_16 (by decide) ?_
      exact W.widen (Nat.le_of_ble_eq_true rfl) (Nat.le_of_ble_eq_true rfl) (xriQ hx hb hr hlocks dL_leave_17 I hS (Or.inl ⟨_, _, hG, Or.inr ⟨rfl, rfl⟩, rfl, rfl⟩))

set_option maxHeartbeats 4000000 in
set_option maxRecDepth 100000 in
theorem mL_pass (l : Launch) (lo : Nat) (D : va_G) (E : Nat → ClassId) (h : XW) (hlst : l.stackTraces = false) (Pr : Nat → Prop) (τ : CT) (ad : Nat → Nat → Nat) (fa : Nat → Nat → Option Nat) (hR : RC E Pr τ ad fa h) (hW : CW τ) (ou : Nat) (fo : Nat → Int64) (hou : Pr ou) (ho : h ou = some (.inl (E 1, 1, .inr (.inl fo)))) (a1 : Int32) (hE : ∀ En, (wIs (fX7_pass τ a1)) = .inl En → En = "java/lang/IllegalArgumentException" ∨ En = "java/lang/IllegalStateException") : Met l yL_pass wsL_pass ({ frames := 8, cells := 2, slots := 12, locals := 149 } : Room) (xPC lo D E h [.ref (ad 0 0), .int a1, .ref ou]) (xQ lo D (wQ E Pr h (ad 0 0) ou fo (wIs (fX7_pass τ a1)) ["java/lang/IllegalArgumentException", "java/lang/IllegalStateException"])) 2 12 (xA lo) := by
  refine xofWH (cc := cL_pass) (maxL := 4) (ret := (some .int)) (hh := [(0, 9, 12, 21), (0, 9, 15, 13)]) (by decide) rfl ?_
  intro p e s m args below meth c s₁ B hml hv
  obtain ⟨rfl, I, hX⟩ := hv
  have hx := B.exec
  have hb := B.bytes
  have hr := B.returns
  have hts := atoms_spec (ws := wsL_pass) B.pre
  have hown : s.vm.findClass RL = some m.cls := findClass_of_methodNamed B.named
  have hlocks := B.notSynchronized
  have hl := lv_entry ([.ref (ad 0 0), .int a1, .ref ou] : List Value) (n := 4) (Nat.le_of_ble_eq_true rfl)
  rw [lg_entry_eq]
  generalize (lg_sl ([.ref (ad 0 0), .int a1, .ref ou] : List Value) ++ List.replicate (4 - (lg_sl ([.ref (ad 0 0), .int a1, .ref ou] : List Value)).length) Slot.unset).toArray = ls at hl ⊢
  have hl : lv_has ls 4 [(0, .ref (ad 0 0)), (1, .int a1), (2, .ref ou)] := hl
  have hS : va_S (xA lo) s.heap s.heap [] := va_S.rf
  refine lv_aload_n hx hb dL_pass_0 rfl (lv_at hl 2 rfl) ?_
  refine lv_iconst (v := (nI 0)) hx hb dL_pass_1 (by decide) ?_
  refine lv_aload_n hx hb dL_pass_2 rfl (lv_at hl 0 rfl) ?_
  refine lv_iload_n hx hb dL_pass_3 rfl (lv_at hl 1 rfl) ?_
  refine xcvC (As := [.int a1]) (rest := [.int (nI 0), .ref ou]) ⟨hx, hb, hml, hown, hts⟩ (mX7_pass l lo D E h hlst Pr τ ad fa hR hW a1) (cwV 1 hts gL_pass_X7_pass rfl rfl rfl (by decide +kernel) ⟨Nat.le_of_ble_eq_true rfl, Nat.le_of_ble_eq_true rfl⟩) I hS hR.f0 rfl rfl hl.1 rfl (Nat.le_of_ble_eq_true rfl) dL_pass_4 ⟨Nat.le_of_ble_eq_true rfl, Nat.le_of_ble_eq_true rfl⟩ (fun v9 hw H locs q9 I hS => ?_) (fun q9 En ce H locs hEn I hS hc1 hc2 hc3 => ?_)
  · skip
    obtain ⟨x9, e9, q1, hR2, hF2, hW2⟩ := q9
    subst q1
    refine W.eq (g2 := F0 m 7 ls [.int x9.1, .int (nI 0), .ref ou]) rfl ?_
    refine lv_i2l (v := x9.1.toInt64) hx hb dL_pass_7 rfl ?_
    have ho2 : hw ou = some (.inl (E 1, 1, .inr (.inl fo))) := (hF2 ou hou).trans ho
    refine xlast (i := 0) (n := 1) hx hb I hS ho2 (by decide) (by decide) dL_pass_8 (fun H locs I hS => ?_)
    have hR3 := hR2.out (e := .inl (E 1, 1, .inr (.inl (vp_updL fo 0 x9.1.toInt64)))) hou
    refine lv_goto (tgt := 18) hx hb dL_pass_9 (by decide) ?_
    refine lv_iconst (v := (nI 0)) hx hb dL_pass_18 (by decide) ?_
    exact W.widen (Nat.le_of_ble_eq_true rfl) (Nat.le_of_ble_eq_true rfl) (xriQ hx hb hr hlocks dL_pass_19 I hS (Or.inr ⟨some x9.1.toInt64, x9.2, (by rw [e9]; simp only [wIs]), rfl, hW2, fun q hq hn => (hset_n hn).trans (hF2 q hq), ⟨ad, fa, hR3, rfl⟩, hset_s⟩))
  · skip
    have hG : (wIs (fX7_pass τ a1)) = .inl En := by rw [show (fX7_pass τ a1) = .inl En from hEn]; rfl
    have hT := vx_table (x := yL_pass) B (hts _ (List.mem_of_getElem? (i := 0) rfl))
    rcases hE En hG with rfl | rfl
    · skip
      refine vx_catch (name := "java/lang/IllegalArgumentException") hown [] ⟨0, 9, 12, 21⟩ [⟨0, 9, 15, 13⟩] hT (fun z hz => by simp at hz) (by decide +kernel) (by decide) (hts _ (List.mem_of_getElem? (i := 1) rfl)) (va_Nw.use rfl (hX.1 _ (by decide))) hc1 hc2 hc3 ?_
      refine lv_astore_n (lv' := [(3, .ref q9), (0, .ref (ad 0 0)), (1, .int a1), (2, .ref ou)]) hx hb dL_pass_12 rfl hl (by decide) rfl (fun ls hl => ?_)
      refine lv_iconst (v := (nI 1)) hx hb dL_pass_13 (by decide) ?_
      exact W.widen (Nat.le_of_ble_eq_true rfl) (Nat.le_of_ble_eq_true rfl) (xriQ hx hb hr hlocks dL_pass_14 I hS (Or.inl ⟨_, _, hG, Or.inl ⟨rfl, rfl⟩, rfl, rfl⟩))
    · skip
      refine vx_catch (name := "java/lang/IllegalStateException") hown [⟨0, 9, 12, 21⟩] ⟨0, 9, 15, 13⟩ [] hT (fun z hz => by
          rcases List.mem_singleton.mp hz with rfl
          exact Or.inr ⟨(by decide), "java/lang/IllegalArgumentException", hts _ (List.mem_of_getElem? (i := 1) rfl), hX.2 _ (by decide) _ (by decide) (by decide)⟩) (by decide +kernel) (by decide) (hts _ (List.mem_of_getElem? (i := 2) rfl)) (va_Nw.use rfl (hX.1 _ (by decide))) hc1 hc2 hc3 ?_
      refine lv_astore_n (lv' := [(3, .ref q9), (0, .ref (ad 0 0)), (1, .int a1), (2, .ref ou)]) hx hb dL_pass_15 rfl hl (by decide) rfl (fun ls hl => ?_)
      refine lv_iconst (v := (nI 2)) hx hb dL_pass_16 (by decide) ?_
      exact W.widen (Nat.le_of_ble_eq_true rfl) (Nat.le_of_ble_eq_true rfl) (xriQ hx hb hr hlocks dL_pass_17 I hS (Or.inl ⟨_, _, hG, Or.inr ⟨rfl, rfl⟩, rfl, rfl⟩))

set_option maxHeartbeats 4000000 in
set_option maxRecDepth 100000 in
theorem mL_rate (l : Launch) (lo : Nat) (D : va_G) (E : Nat → ClassId) (h : XW) (hlst : l.stackTraces = false) (Pr : Nat → Prop) (τ : CT) (ad : Nat → Nat → Nat) (fa : Nat → Nat → Option Nat) (hR : RC E Pr τ ad fa h) (hW : CW τ) (ou : Nat) (fo : Nat → Int64) (hou : Pr ou) (ho : h ou = some (.inl (E 1, 1, .inr (.inl fo)))) (a1 : Int32) (a2 : Int32) (a3 : Int32) (hE : ∀ En, (wIs (fX7_rate τ a1 a2 a3)) = .inl En → En = "java/lang/IndexOutOfBoundsException" ∨ En = "java/lang/IllegalArgumentException" ∨ En = "java/lang/IllegalStateException") : Met l yL_rate wsL_rate ({ frames := 9, cells := 5, slots := 30, locals := 173 } : Room) (xPC lo D E h [.ref (ad 0 0), .int a1, .int a2, .int a3, .ref ou]) (xQ lo D (wQ E Pr h (ad 0 0) ou fo (wIs (fX7_rate τ a1 a2 a3)) ["java/lang/IndexOutOfBoundsException", "java/lang/IllegalArgumentException", "java/lang/IllegalStateException"])) 5 30 (xA lo) := by
  refine xofWH (cc := cL_rate) (maxL := 6) (ret := (some .int)) (hh := [(0, 12, 15, 19), (0, 12, 19, 21), (0, 12, 23, 13)]) (by decide) rfl ?_
  intro p e s m args below meth c s₁ B hml hv
  obtain ⟨rfl, I, hX⟩ := hv
  have hx := B.exec
  have hb := B.bytes
  have hr := B.returns
  have hts := atoms_spec (ws := wsL_rate) B.pre
  have hown : s.vm.findClass RL = some m.cls := findClass_of_methodNamed B.named
  have hlocks := B.notSynchronized
  have hl := lv_entry ([.ref (ad 0 0), .int a1, .int a2, .int a3, .ref ou] : List Value) (n := 6) (Nat.le_of_ble_eq_true rfl)
  rw [lg_entry_eq]
  generalize (lg_sl ([.ref (ad 0 0), .int a1, .int a2, .int a3, .ref ou] : List Value) ++ List.replicate (6 - (lg_sl ([.ref (ad 0 0), .int a1, .int a2, .int a3, .ref ou] : List Value)).length) Slot.unset).toArray = ls at hl ⊢
  have hl : lv_has ls 6 [(0, .ref (ad 0 0)), (1, .int a1), (2, .int a2), (3, .int a3), (4, .ref ou)] := hl
  have hS : va_S (xA lo) s.heap s.heap [] := va_S.rf
  refine lv_aload hx hb dL_rate_0 (lv_at hl 4 rfl) ?_
  refine lv_iconst (v := (nI 0)) hx hb dL_rate_2 (by decide) ?_
  refine lv_aload_n hx hb dL_rate_3 rfl (lv_at hl 0 rfl) ?_
  refine lv_iload_n hx hb dL_rate_4 rfl (lv_at hl 1 rfl) ?_
  refine lv_iload_n hx hb dL_rate_5 rfl (lv_at hl 2 rfl) ?_
  refine lv_iload_n hx hb dL_rate_6 rfl (lv_at hl 3 rfl) ?_
  refine xcvC (As := [.int a1, .int a2, .int a3]) (rest := [.int (nI 0), .ref ou]) ⟨hx, hb, hml, hown, hts⟩ (mX7_rate l lo D E h hlst Pr τ ad fa hR hW a1 a2 a3) (cwV 3 hts gL_rate_X7_rate rfl rfl rfl (by decide +kernel) ⟨Nat.le_of_ble_eq_true rfl, Nat.le_of_ble_eq_true rfl⟩) I hS hR.f0 rfl rfl hl.1 rfl (Nat.le_of_ble_eq_true rfl) dL_rate_7 ⟨Nat.le_of_ble_eq_true rfl, Nat.le_of_ble_eq_true rfl⟩ (fun v9 hw H locs q9 I hS => ?_) (fun q9 En ce H locs hEn I hS hc1 hc2 hc3 => ?_)
  · skip
    obtain ⟨x9, e9, q1, hR2, hF2, hW2⟩ := q9
    subst q1
    refine W.eq (g2 := F0 m 10 ls [.int x9.1, .int (nI 0), .ref ou]) rfl ?_
    refine lv_i2l (v := x9.1.toInt64) hx hb dL_rate_10 rfl ?_
    have ho2 : hw ou = some (.inl (E 1, 1, .inr (.inl fo))) := (hF2 ou hou).trans ho
    refine xlast (i := 0) (n := 1) hx hb I hS ho2 (by decide) (by decide) dL_rate_11 (fun H locs I hS => ?_)
    have hR3 := hR2.out (e := .inl (E 1, 1, .inr (.inl (vp_updL fo 0 x9.1.toInt64)))) hou
    refine lv_goto (tgt := 27) hx hb dL_rate_12 (by decide) ?_
    refine lv_iconst (v := (nI 0)) hx hb dL_rate_27 (by decide) ?_
    exact W.widen (Nat.le_of_ble_eq_true rfl) (Nat.le_of_ble_eq_true rfl) (xriQ hx hb hr hlocks dL_rate_28 I hS (Or.inr ⟨some x9.1.toInt64, x9.2, (by rw [e9]; simp only [wIs]), rfl, hW2, fun q hq hn => (hset_n hn).trans (hF2 q hq), ⟨ad, fa, hR3, rfl⟩, hset_s⟩))
  · skip
    have hG : (wIs (fX7_rate τ a1 a2 a3)) = .inl En := by rw [show (fX7_rate τ a1 a2 a3) = .inl En from hEn]; rfl
    have hT := vx_table (x := yL_rate) B (hts _ (List.mem_of_getElem? (i := 0) rfl))
    rcases hE En hG with rfl | rfl | rfl
    · skip
      refine vx_catch (name := "java/lang/IndexOutOfBoundsException") hown [] ⟨0, 12, 15, 19⟩ [⟨0, 12, 19, 21⟩, ⟨0, 12, 23, 13⟩] hT (fun z hz => by simp at hz) (by decide +kernel) (by decide) (hts _ (List.mem_of_getElem? (i := 1) rfl)) (va_Nw.use rfl (hX.1 _ (by decide))) hc1 hc2 hc3 ?_
      refine lv_astore (lv' := [(5, .ref q9), (0, .ref (ad 0 0)), (1, .int a1), (2, .int a2), (3, .int a3), (4, .ref ou)]) hx hb dL_rate_15 hl (by decide) rfl (fun ls hl => ?_)
      refine lv_iconst (v := (nI 1)) hx hb dL_rate_17 (by decide) ?_
      exact W.widen (Nat.le_of_ble_eq_true rfl) (Nat.le_of_ble_eq_true rfl) (xriQ hx hb hr hlocks dL_rate_18 I hS (Or.inl ⟨_, _, hG, Or.inl ⟨rfl, rfl⟩, rfl, rfl⟩))
    · skip
      refine vx_catch (name := "java/lang/IllegalArgumentException") hown [⟨0, 12, 15, 19⟩] ⟨0, 12, 19, 21⟩ [⟨0, 12, 23, 13⟩] hT (fun z hz => by
          rcases List.mem_singleton.mp hz with rfl
          exact Or.inr ⟨(by decide), "java/lang/IndexOutOfBoundsException", hts _ (List.mem_of_getElem? (i := 1) rfl), hX.2 _ (by decide) _ (by decide) (by decide)⟩) (by decide +kernel) (by decide) (hts _ (List.mem_of_getElem? (i := 2) rfl)) (va_Nw.use rfl (hX.1 _ (by decide))) hc1 hc2 hc3 ?_
      refine lv_astore (lv' := [(5, .ref q9), (0, .ref (ad 0 0)), (1, .int a1), (2, .int a2), (3, .int a3), (4, .ref ou)]) hx hb dL_rate_19 hl (by decide) rfl (fun ls hl => ?_)
      refine lv_iconst (v := (nI 2)) hx hb dL_rate_21 (by decide) ?_
      exact W.widen (Nat.le_of_ble_eq_true rfl) (Nat.le_of_ble_eq_true rfl) (xriQ hx hb hr hlocks dL_rate_22 I hS (Or.inl ⟨_, _, hG, Or.inr (Or.inl ⟨rfl, rfl⟩), rfl, rfl⟩))
    · skip
      refine vx_catch (name := "java/lang/IllegalStateException") hown [⟨0, 12, 15, 19⟩, ⟨0, 12, 19, 21⟩] ⟨0, 12, 23, 13⟩ [] hT (fun z hz => by
          rcases List.mem_cons.mp hz with rfl | hz
          · exact Or.inr ⟨(by decide), "java/lang/IndexOutOfBoundsException", hts _ (List.mem_of_getElem? (i := 1) rfl), hX.2 _ (by decide) _ (by decide) (by decide)⟩
          · rcases List.mem_singleton.mp hz with rfl
            exact Or.inr ⟨(by decide), "java/lang/IllegalArgumentException", hts _ (List.mem_of_getElem? (i := 2) rfl), hX.2 _ (by decide) _ (by decide) (by decide)⟩) (by decide +kernel) (by decide) (hts _ (List.mem_of_getElem? (i := 3) rfl)) (va_Nw.use rfl (hX.1 _ (by decide))) hc1 hc2 hc3 ?_
      refine lv_astore (lv' := [(5, .ref q9), (0, .ref (ad 0 0)), (1, .int a1), (2, .int a2), (3, .int a3), (4, .ref ou)]) hx hb dL_rate_23 hl (by decide) rfl (fun ls hl => ?_)
      refine lv_iconst (v := (nI 3)) hx hb dL_rate_25 (by decide) ?_
      exact W.widen (Nat.le_of_ble_eq_true rfl) (Nat.le_of_ble_eq_true rfl) (xriQ hx hb hr hlocks dL_rate_26 I hS (Or.inl ⟨_, _, hG, Or.inr (Or.inr ⟨rfl, rfl⟩), rfl, rfl⟩))

set_option maxHeartbeats 4000000 in
set_option maxRecDepth 100000 in
theorem mL_weight (l : Launch) (lo : Nat) (D : va_G) (E : Nat → ClassId) (h : XW) (hlst : l.stackTraces = false) (Pr : Nat → Prop) (τ : CT) (ad : Nat → Nat → Nat) (fa : Nat → Nat → Option Nat) (hR : RC E Pr τ ad fa h) (hW : CW τ) (ou : Nat) (fo : Nat → Int64) (hou : Pr ou) (ho : h ou = some (.inl (E 1, 1, .inr (.inl fo)))) (a1 : Int32) (a2 : Int32) (hE : ∀ En, (wL τ (fX7_weight τ a1 a2)) = .inl En → En = "java/lang/IndexOutOfBoundsException" ∨ En = "java/lang/IllegalArgumentException") : Met l yL_weight wsL_weight ({ frames := 9, cells := 2, slots := 12, locals := 171 } : Room) (xPC lo D E h [.ref (ad 0 0), .int a1, .int a2, .ref ou]) (xQ lo D (wQ E Pr h (ad 0 0) ou fo (wL τ (fX7_weight τ a1 a2)) ["java/lang/IndexOutOfBoundsException", "java/lang/IllegalArgumentException"])) 2 12 (xA lo) := by
  refine xofWH (cc := cL_weight) (maxL := 5) (ret := (some .int)) (hh := [(0, 9, 12, 19), (0, 9, 16, 21)]) (by decide) rfl ?_
  intro p e s m args below meth c s₁ B hml hv
  obtain ⟨rfl, I, hX⟩ := hv
  have hx := B.exec
  have hb := B.bytes
  have hr := B.returns
  have hts := atoms_spec (ws := wsL_weight) B.pre
  have hown : s.vm.findClass RL = some m.cls := findClass_of_methodNamed B.named
  have hlocks := B.notSynchronized
  have hl := lv_entry ([.ref (ad 0 0), .int a1, .int a2, .ref ou] : List Value) (n := 5) (Nat.le_of_ble_eq_true rfl)
  rw [lg_entry_eq]
  generalize (lg_sl ([.ref (ad 0 0), .int a1, .int a2, .ref ou] : List Value) ++ List.replicate (5 - (lg_sl ([.ref (ad 0 0), .int a1, .int a2, .ref ou] : List Value)).length) Slot.unset).toArray = ls at hl ⊢
  have hl : lv_has ls 5 [(0, .ref (ad 0 0)), (1, .int a1), (2, .int a2), (3, .ref ou)] := hl
  have hS : va_S (xA lo) s.heap s.heap [] := va_S.rf
  refine lv_aload_n hx hb dL_weight_0 rfl (lv_at hl 3 rfl) ?_
  refine lv_iconst (v := (nI 0)) hx hb dL_weight_1 (by decide) ?_
  refine lv_aload_n hx hb dL_weight_2 rfl (lv_at hl 0 rfl) ?_
  refine lv_iload_n hx hb dL_weight_3 rfl (lv_at hl 1 rfl) ?_
  refine lv_iload_n hx hb dL_weight_4 rfl (lv_at hl 2 rfl) ?_
  refine xcvC (As := [.int a1, .int a2]) (rest := [.int (nI 0), .ref ou]) ⟨hx, hb, hml, hown, hts⟩ (mX7_weight l lo D E h hlst Pr τ ad fa hR hW a1 a2) (cwV 2 hts gL_weight_X7_weight rfl rfl rfl (by decide +kernel) ⟨Nat.le_of_ble_eq_true rfl, Nat.le_of_ble_eq_true rfl⟩) I hS hR.f0 rfl rfl hl.1 rfl (Nat.le_of_ble_eq_true rfl) dL_weight_5 ⟨Nat.le_of_ble_eq_true rfl, Nat.le_of_ble_eq_true rfl⟩ (fun v9 hw H locs q9 I hS => ?_) (fun q9 En ce H locs hEn I hS hc1 hc2 hc3 => ?_)
  · skip
    obtain ⟨x9, e9, q1, q2⟩ := q9
    subst q1
    rw [q2] at I
    have hF2 : cF Pr h h := cF.rf
    have hR2 := hR
    have hW2 := hW
    refine W.eq (g2 := F0 m 8 ls [.long x9, .int (nI 0), .ref ou]) rfl ?_
    have ho2 : h ou = some (.inl (E 1, 1, .inr (.inl fo))) := (hF2 ou hou).trans ho
    refine xlast (i := 0) (n := 1) hx hb I hS ho2 (by decide) (by decide) dL_weight_8 (fun H locs I hS => ?_)
    have hR3 := hR2.out (e := .inl (E 1, 1, .inr (.inl (vp_updL fo 0 x9)))) hou
    refine lv_goto (tgt := 20) hx hb dL_weight_9 (by decide) ?_
    refine lv_iconst (v := (nI 0)) hx hb dL_weight_20 (by decide) ?_
    exact W.widen (Nat.le_of_ble_eq_true rfl) (Nat.le_of_ble_eq_true rfl) (xriQ hx hb hr hlocks dL_weight_21 I hS (Or.inr ⟨some x9, τ, (by rw [e9]; simp only [wL]), rfl, hW2, fun q hq hn => (hset_n hn).trans (hF2 q hq), ⟨ad, fa, hR3, rfl⟩, hset_s⟩))
  · skip
    have hG : (wL τ (fX7_weight τ a1 a2)) = .inl En := by rw [show (fX7_weight τ a1 a2) = .inl En from hEn]; rfl
    have hT := vx_table (x := yL_weight) B (hts _ (List.mem_of_getElem? (i := 0) rfl))
    rcases hE En hG with rfl | rfl
    · skip
      refine vx_catch (name := "java/lang/IndexOutOfBoundsException") hown [] ⟨0, 9, 12, 19⟩ [⟨0, 9, 16, 21⟩] hT (fun z hz => by simp at hz) (by decide +kernel) (by decide) (hts _ (List.mem_of_getElem? (i := 1) rfl)) (va_Nw.use rfl (hX.1 _ (by decide))) hc1 hc2 hc3 ?_
      refine lv_astore (lv' := [(4, .ref q9), (0, .ref (ad 0 0)), (1, .int a1), (2, .int a2), (3, .ref ou)]) hx hb dL_weight_12 hl (by decide) rfl (fun ls hl => ?_)
      refine lv_iconst (v := (nI 1)) hx hb dL_weight_14 (by decide) ?_
      exact W.widen (Nat.le_of_ble_eq_true rfl) (Nat.le_of_ble_eq_true rfl) (xriQ hx hb hr hlocks dL_weight_15 I hS (Or.inl ⟨_, _, hG, Or.inl ⟨rfl, rfl⟩, rfl, rfl⟩))
    · skip
      refine vx_catch (name := "java/lang/IllegalArgumentException") hown [⟨0, 9, 12, 19⟩] ⟨0, 9, 16, 21⟩ [] hT (fun z hz => by
          rcases List.mem_singleton.mp hz with rfl
          exact Or.inr ⟨(by decide), "java/lang/IndexOutOfBoundsException", hts _ (List.mem_of_getElem? (i := 1) rfl), hX.2 _ (by decide) _ (by decide) (by decide)⟩) (by decide +kernel) (by decide) (hts _ (List.mem_of_getElem? (i := 2) rfl)) (va_Nw.use rfl (hX.1 _ (by decide))) hc1 hc2 hc3 ?_
      refine lv_astore (lv' := [(4, .ref q9), (0, .ref (ad 0 0)), (1, .int a1), (2, .int a2), (3, .ref ou)]) hx hb dL_weight_16 hl (by decide) rfl (fun ls hl => ?_)
      refine lv_iconst (v := (nI 2)) hx hb dL_weight_18 (by decide) ?_
      exact W.widen (Nat.le_of_ble_eq_true rfl) (Nat.le_of_ble_eq_true rfl) (xriQ hx hb hr hlocks dL_weight_19 I hS (Or.inl ⟨_, _, hG, Or.inr ⟨rfl, rfl⟩, rfl, rfl⟩))

set_option maxHeartbeats 4000000 in
set_option maxRecDepth 100000 in
theorem mL_weightAnew (l : Launch) (lo : Nat) (D : va_G) (E : Nat → ClassId) (h : XW) (hlst : l.stackTraces = false) (Pr : Nat → Prop) (τ : CT) (ad : Nat → Nat → Nat) (fa : Nat → Nat → Option Nat) (hR : RC E Pr τ ad fa h) (hW : CW τ) (ou : Nat) (fo : Nat → Int64) (hou : Pr ou) (ho : h ou = some (.inl (E 1, 1, .inr (.inl fo)))) (a1 : Int32) (a2 : Int32) (hE : ∀ En, (wL τ (fX7_weightAnew τ a1 a2)) = .inl En → En = "java/lang/IndexOutOfBoundsException" ∨ En = "java/lang/IllegalArgumentException") : Met l yL_weightAnew wsL_weightAnew ({ frames := 9, cells := 2, slots := 12, locals := 175 } : Room) (xPC lo D E h [.ref (ad 0 0), .int a1, .int a2, .ref ou]) (xQ lo D (wQ E Pr h (ad 0 0) ou fo (wL τ (fX7_weightAnew τ a1 a2)) ["java/lang/IndexOutOfBoundsException", "java/lang/IllegalArgumentException"])) 2 12 (xA lo) := by
  refine xofWH (cc := cL_weightAnew) (maxL := 5) (ret := (some .int)) (hh := [(0, 9, 12, 19), (0, 9, 16, 21)]) (by decide) rfl ?_
  intro p e s m args below meth c s₁ B hml hv
  obtain ⟨rfl, I, hX⟩ := hv
  have hx := B.exec
  have hb := B.bytes
  have hr := B.returns
  have hts := atoms_spec (ws := wsL_weightAnew) B.pre
  have hown : s.vm.findClass RL = some m.cls := findClass_of_methodNamed B.named
  have hlocks := B.notSynchronized
  have hl := lv_entry ([.ref (ad 0 0), .int a1, .int a2, .ref ou] : List Value) (n := 5) (Nat.le_of_ble_eq_true rfl)
  rw [lg_entry_eq]
  generalize (lg_sl ([.ref (ad 0 0), .int a1, .int a2, .ref ou] : List Value) ++ List.replicate (5 - (lg_sl ([.ref (ad 0 0), .int a1, .int a2, .ref ou] : List Value)).length) Slot.unset).toArray = ls at hl ⊢
  have hl : lv_has ls 5 [(0, .ref (ad 0 0)), (1, .int a1), (2, .int a2), (3, .ref ou)] := hl
  have hS : va_S (xA lo) s.heap s.heap [] := va_S.rf
  refine lv_aload_n hx hb dL_weightAnew_0 rfl (lv_at hl 3 rfl) ?_
  refine lv_iconst (v := (nI 0)) hx hb dL_weightAnew_1 (by decide) ?_
  refine lv_aload_n hx hb dL_weightAnew_2 rfl (lv_at hl 0 rfl) ?_
  refine lv_iload_n hx hb dL_weightAnew_3 rfl (lv_at hl 1 rfl) ?_
  refine lv_iload_n hx hb dL_weightAnew_4 rfl (lv_at hl 2 rfl) ?_
  refine xcvC (As := [.int a1, .int a2]) (rest := [.int (nI 0), .ref ou]) ⟨hx, hb, hml, hown, hts⟩ (mX7_weightAnew l lo D E h hlst Pr τ ad fa hR hW a1 a2) (cwV 2 hts gL_weightAnew_X7_weightAnew rfl rfl rfl (by decide +kernel) ⟨Nat.le_of_ble_eq_true rfl, Nat.le_of_ble_eq_true rfl⟩) I hS hR.f0 rfl rfl hl.1 rfl (Nat.le_of_ble_eq_true rfl) dL_weightAnew_5 ⟨Nat.le_of_ble_eq_true rfl, Nat.le_of_ble_eq_true rfl⟩ (fun v9 hw H locs q9 I hS => ?_) (fun q9 En ce H locs hEn I hS hc1 hc2 hc3 => ?_)
  · skip
    obtain ⟨x9, e9, q1, q2⟩ := q9
    subst q1
    rw [q2] at I
    have hF2 : cF Pr h h := cF.rf
    have hR2 := hR
    have hW2 := hW
    refine W.eq (g2 := F0 m 8 ls [.long x9, .int (nI 0), .ref ou]) rfl ?_
    have ho2 : h ou = some (.inl (E 1, 1, .inr (.inl fo))) := (hF2 ou hou).trans ho
    refine xlast (i := 0) (n := 1) hx hb I hS ho2 (by decide) (by decide) dL_weightAnew_8 (fun H locs I hS => ?_)
    have hR3 := hR2.out (e := .inl (E 1, 1, .inr (.inl (vp_updL fo 0 x9)))) hou
    refine lv_goto (tgt := 20) hx hb dL_weightAnew_9 (by decide) ?_
    refine lv_iconst (v := (nI 0)) hx hb dL_weightAnew_20 (by decide) ?_
    exact W.widen (Nat.le_of_ble_eq_true rfl) (Nat.le_of_ble_eq_true rfl) (xriQ hx hb hr hlocks dL_weightAnew_21 I hS (Or.inr ⟨some x9, τ, (by rw [e9]; simp only [wL]), rfl, hW2, fun q hq hn => (hset_n hn).trans (hF2 q hq), ⟨ad, fa, hR3, rfl⟩, hset_s⟩))
  · skip
    have hG : (wL τ (fX7_weightAnew τ a1 a2)) = .inl En := by rw [show (fX7_weightAnew τ a1 a2) = .inl En from hEn]; rfl
    have hT := vx_table (x := yL_weightAnew) B (hts _ (List.mem_of_getElem? (i := 0) rfl))
    rcases hE En hG with rfl | rfl
    · skip
      refine vx_catch (name := "java/lang/IndexOutOfBoundsException") hown [] ⟨0, 9, 12, 19⟩ [⟨0, 9, 16, 21⟩] hT (fun z hz => by simp at hz) (by decide +kernel) (by decide) (hts _ (List.mem_of_getElem? (i := 1) rfl)) (va_Nw.use rfl (hX.1 _ (by decide))) hc1 hc2 hc3 ?_
      refine lv_astore (lv' := [(4, .ref q9), (0, .ref (ad 0 0)), (1, .int a1), (2, .int a2), (3, .ref ou)]) hx hb dL_weightAnew_12 hl (by decide) rfl (fun ls hl => ?_)
      refine lv_iconst (v := (nI 1)) hx hb dL_weightAnew_14 (by decide) ?_
      exact W.widen (Nat.le_of_ble_eq_true rfl) (Nat.le_of_ble_eq_true rfl) (xriQ hx hb hr hlocks dL_weightAnew_15 I hS (Or.inl ⟨_, _, hG, Or.inl ⟨rfl, rfl⟩, rfl, rfl⟩))
    · skip
      refine vx_catch (name := "java/lang/IllegalArgumentException") hown [⟨0, 9, 12, 19⟩] ⟨0, 9, 16, 21⟩ [] hT (fun z hz => by
          rcases List.mem_singleton.mp hz with rfl
          exact Or.inr ⟨(by decide), "java/lang/IndexOutOfBoundsException", hts _ (List.mem_of_getElem? (i := 1) rfl), hX.2 _ (by decide) _ (by decide) (by decide)⟩) (by decide +kernel) (by decide) (hts _ (List.mem_of_getElem? (i := 2) rfl)) (va_Nw.use rfl (hX.1 _ (by decide))) hc1 hc2 hc3 ?_
      refine lv_astore (lv' := [(4, .ref q9), (0, .ref (ad 0 0)), (1, .int a1), (2, .int a2), (3, .ref ou)]) hx hb dL_weightAnew_16 hl (by decide) rfl (fun ls hl => ?_)
      refine lv_iconst (v := (nI 2)) hx hb dL_weightAnew_18 (by decide) ?_
      exact W.widen (Nat.le_of_ble_eq_true rfl) (Nat.le_of_ble_eq_true rfl) (xriQ hx hb hr hlocks dL_weightAnew_19 I hS (Or.inl ⟨_, _, hG, Or.inr ⟨rfl, rfl⟩, rfl, rfl⟩))

set_option maxHeartbeats 4000000 in
set_option maxRecDepth 100000 in
theorem mL_rule (l : Launch) (lo : Nat) (D : va_G) (E : Nat → ClassId) (h : XW) (hlst : l.stackTraces = false) (Pr : Nat → Prop) (τ : CT) (ad : Nat → Nat → Nat) (fa : Nat → Nat → Option Nat) (hR : RC E Pr τ ad fa h) (hW : CW τ) (ou : Nat) (fo : Nat → Int64) (hou : Pr ou) (ho : h ou = some (.inl (E 1, 1, .inr (.inl fo)))) (a1 : Int32) (a2 : Int32) (a3 : Int32) (a4 : Int32) (hE : ∀ En, (wVs (fX7_rule τ a1 a2 a3 a4)) = .inl En → En = "java/lang/IllegalArgumentException" ∨ En = "java/lang/IllegalStateException") : Met l yL_rule wsL_rule ({ frames := 9, cells := 5, slots := 30, locals := 172 } : Room) (xPC lo D E h [.ref (ad 0 0), .int a1, .int a2, .int a3, .int a4]) (xQ lo D (wQ E Pr h (ad 0 0) ou fo (wVs (fX7_rule τ a1 a2 a3 a4)) ["java/lang/IllegalArgumentException", "java/lang/IllegalStateException"])) 5 30 (xA lo) := by
  refine xofWH (cc := cL_rule) (maxL := 6) (ret := (some .int)) (hh := [(0, 9, 12, 21), (0, 9, 16, 13)]) (by decide) rfl ?_
  intro p e s m args below meth c s₁ B hml hv
  obtain ⟨rfl, I, hX⟩ := hv
  have hx := B.exec
  have hb := B.bytes
  have hr := B.returns
  have hts := atoms_spec (ws := wsL_rule) B.pre
  have hown : s.vm.findClass RL = some m.cls := findClass_of_methodNamed B.named
  have hlocks := B.notSynchronized
  have hl := lv_entry ([.ref (ad 0 0), .int a1, .int a2, .int a3, .int a4] : List Value) (n := 6) (Nat.le_of_ble_eq_true rfl)
  rw [lg_entry_eq]
  generalize (lg_sl ([.ref (ad 0 0), .int a1, .int a2, .int a3, .int a4] : List Value) ++ List.replicate (6 - (lg_sl ([.ref (ad 0 0), .int a1, .int a2, .int a3, .int a4] : List Value)).length) Slot.unset).toArray = ls at hl ⊢
  have hl : lv_has ls 6 [(0, .ref (ad 0 0)), (1, .int a1), (2, .int a2), (3, .int a3), (4, .int a4)] := hl
  have hS : va_S (xA lo) s.heap s.heap [] := va_S.rf
  refine lv_aload_n hx hb dL_rule_0 rfl (lv_at hl 0 rfl) ?_
  refine lv_iload_n hx hb dL_rule_1 rfl (lv_at hl 1 rfl) ?_
  refine lv_iload_n hx hb dL_rule_2 rfl (lv_at hl 2 rfl) ?_
  refine lv_iload_n hx hb dL_rule_3 rfl (lv_at hl 3 rfl) ?_
  refine lv_iload hx hb dL_rule_4 (lv_at hl 4 rfl) ?_
  refine xcvC (As := [.int a1, .int a2, .int a3, .int a4]) (rest := []) ⟨hx, hb, hml, hown, hts⟩ (mX7_rule l lo D E h hlst Pr τ ad fa hR hW a1 a2 a3 a4) (cwV 4 hts gL_rule_X7_rule rfl rfl rfl (by decide +kernel) ⟨Nat.le_of_ble_eq_true rfl, Nat.le_of_ble_eq_true rfl⟩) I hS hR.f0 rfl rfl hl.1 rfl (Nat.le_of_ble_eq_true rfl) dL_rule_6 ⟨Nat.le_of_ble_eq_true rfl, Nat.le_of_ble_eq_true rfl⟩ (fun v9 hw H locs q9 I hS => ?_) (fun q9 En ce H locs hEn I hS hc1 hc2 hc3 => ?_)
  · skip
    obtain ⟨x9, e9, q1, hR2, hF2, hW2⟩ := q9
    subst q1
    have hR3 := hR2
    refine lv_goto (tgt := 20) hx hb dL_rule_9 (by decide) ?_
    refine lv_iconst (v := (nI 0)) hx hb dL_rule_20 (by decide) ?_
    exact W.widen (Nat.le_of_ble_eq_true rfl) (Nat.le_of_ble_eq_true rfl) (xriQ hx hb hr hlocks dL_rule_21 I hS (Or.inr ⟨none, x9, (by rw [e9]; simp only [wVs]), rfl, hW2, fun q hq hn => hF2 q hq, ⟨ad, fa, hR3, rfl⟩, (hF2 ou hou).trans ho⟩))
  · skip
    have hG : (wVs (fX7_rule τ a1 a2 a3 a4)) = .inl En := by rw [show (fX7_rule τ a1 a2 a3 a4) = .inl En from hEn]; rfl
    have hT := vx_table (x := yL_rule) B (hts _ (List.mem_of_getElem? (i := 0) rfl))
    rcases hE En hG with rfl | rfl
    · skip
      refine vx_catch (name := "java/lang/IllegalArgumentException") hown [] ⟨0, 9, 12, 21⟩ [⟨0, 9, 16, 13⟩] hT (fun z hz => by simp at hz) (by decide +kernel) (by decide) (hts _ (List.mem_of_getElem? (i := 1) rfl)) (va_Nw.use rfl (hX.1 _ (by decide))) hc1 hc2 hc3 ?_
      refine lv_astore (lv' := [(5, .ref q9), (0, .ref (ad 0 0)), (1, .int a1), (2, .int a2), (3, .int a3), (4, .int a4)]) hx hb dL_rule_12 hl (by decide) rfl (fun ls hl => ?_)
      refine lv_iconst (v := (nI 1)) hx hb dL_rule_14 (by decide) ?_
      exact W.widen (Nat.le_of_ble_eq_true rfl) (Nat.le_of_ble_eq_true rfl) (xriQ hx hb hr hlocks dL_rule_15 I hS (Or.inl ⟨_, _, hG, Or.inl ⟨rfl, rfl⟩, rfl, rfl⟩))
    · skip
      refine vx_catch (name := "java/lang/IllegalStateException") hown [⟨0, 9, 12, 21⟩] ⟨0, 9, 16, 13⟩ [] hT (fun z hz => by
          rcases List.mem_singleton.mp hz with rfl
          exact Or.inr ⟨(by decide), "java/lang/IllegalArgumentException", hts _ (List.mem_of_getElem? (i := 1) rfl), hX.2 _ (by decide) _ (by decide) (by decide)⟩) (by decide +kernel) (by decide) (hts _ (List.mem_of_getElem? (i := 2) rfl)) (va_Nw.use rfl (hX.1 _ (by decide))) hc1 hc2 hc3 ?_
      refine lv_astore (lv' := [(5, .ref q9), (0, .ref (ad 0 0)), (1, .int a1), (2, .int a2), (3, .int a3), (4, .int a4)]) hx hb dL_rule_16 hl (by decide) rfl (fun ls hl => ?_)
      refine lv_iconst (v := (nI 2)) hx hb dL_rule_18 (by decide) ?_
      exact W.widen (Nat.le_of_ble_eq_true rfl) (Nat.le_of_ble_eq_true rfl) (xriQ hx hb hr hlocks dL_rule_19 I hS (Or.inl ⟨_, _, hG, Or.inr ⟨rfl, rfl⟩, rfl, rfl⟩))

set_option maxHeartbeats 4000000 in
set_option maxRecDepth 100000 in
theorem mL_pool (l : Launch) (lo : Nat) (D : va_G) (E : Nat → ClassId) (h : XW) (hlst : l.stackTraces = false) (Pr : Nat → Prop) (τ : CT) (ad : Nat → Nat → Nat) (fa : Nat → Nat → Option Nat) (hR : RC E Pr τ ad fa h) (hW : CW τ) (ou : Nat) (fo : Nat → Int64) (hou : Pr ou) (ho : h ou = some (.inl (E 1, 1, .inr (.inl fo)))) (a1 : Int32) (a2 : Int32) (a3 : Int32) (a4 : Int32) (hE : ∀ En, (wVs (fX7_pool τ a1 a2 a3 a4)) = .inl En → En = "java/lang/IllegalArgumentException" ∨ En = "java/lang/IllegalStateException") : Met l yL_pool wsL_pool ({ frames := 9, cells := 5, slots := 30, locals := 172 } : Room) (xPC lo D E h [.ref (ad 0 0), .int a1, .int a2, .int a3, .int a4]) (xQ lo D (wQ E Pr h (ad 0 0) ou fo (wVs (fX7_pool τ a1 a2 a3 a4)) ["java/lang/IllegalArgumentException", "java/lang/IllegalStateException"])) 5 30 (xA lo) := by
  refine xofWH (cc := cL_pool) (maxL := 6) (ret := (some .int)) (hh := [(0, 9, 12, 21), (0, 9, 16, 13)]) (by decide) rfl ?_
  intro p e s m args below meth c s₁ B hml hv
  obtain ⟨rfl, I, hX⟩ := hv
  have hx := B.exec
  have hb := B.bytes
  have hr := B.returns
  have hts := atoms_spec (ws := wsL_pool) B.pre
  have hown : s.vm.findClass RL = some m.cls := findClass_of_methodNamed B.named
  have hlocks := B.notSynchronized
  have hl := lv_entry ([.ref (ad 0 0), .int a1, .int a2, .int a3, .int a4] : List Value) (n := 6) (Nat.le_of_ble_eq_true rfl)
  rw [lg_entry_eq]
  generalize (lg_sl ([.ref (ad 0 0), .int a1, .int a2, .int a3, .int a4] : List Value) ++ List.replicate (6 - (lg_sl ([.ref (ad 0 0), .int a1, .int a2, .int a3, .int a4] : List Value)).length) Slot.unset).toArray = ls at hl ⊢
  have hl : lv_has ls 6 [(0, .ref (ad 0 0)), (1, .int a1), (2, .int a2), (3, .int a3), (4, .int a4)] := hl
  have hS : va_S (xA lo) s.heap s.heap [] := va_S.rf
  refine lv_aload_n hx hb dL_pool_0 rfl (lv_at hl 0 rfl) ?_
  refine lv_iload_n hx hb dL_pool_1 rfl (lv_at hl 1 rfl) ?_
  refine lv_iload_n hx hb dL_pool_2 rfl (lv_at hl 2 rfl) ?_
  refine lv_iload_n hx hb dL_pool_3 rfl (lv_at hl 3 rfl) ?_
  refine lv_iload hx hb dL_pool_4 (lv_at hl 4 rfl) ?_
  refine xcvC (As := [.int a1, .int a2, .int a3, .int a4]) (rest := []) ⟨hx, hb, hml, hown, hts⟩ (mX7_pool l lo D E h hlst Pr τ ad fa hR hW a1 a2 a3 a4) (cwV 4 hts gL_pool_X7_pool rfl rfl rfl (by decide +kernel) ⟨Nat.le_of_ble_eq_true rfl, Nat.le_of_ble_eq_true rfl⟩) I hS hR.f0 rfl rfl hl.1 rfl (Nat.le_of_ble_eq_true rfl) dL_pool_6 ⟨Nat.le_of_ble_eq_true rfl, Nat.le_of_ble_eq_true rfl⟩ (fun v9 hw H locs q9 I hS => ?_) (fun q9 En ce H locs hEn I hS hc1 hc2 hc3 => ?_)
  · skip
    obtain ⟨x9, e9, q1, hR2, hF2, hW2⟩ := q9
    subst q1
    have hR3 := hR2
    refine lv_goto (tgt := 20) hx hb dL_pool_9 (by decide) ?_
    refine lv_iconst (v := (nI 0)) hx hb dL_pool_20 (by decide) ?_
    exact W.widen (Nat.le_of_ble_eq_true rfl) (Nat.le_of_ble_eq_true rfl) (xriQ hx hb hr hlocks dL_pool_21 I hS (Or.inr ⟨none, x9, (by rw [e9]; simp only [wVs]), rfl, hW2, fun q hq hn => hF2 q hq, ⟨ad, fa, hR3, rfl⟩, (hF2 ou hou).trans ho⟩))
  · skip
    have hG : (wVs (fX7_pool τ a1 a2 a3 a4)) = .inl En := by rw [show (fX7_pool τ a1 a2 a3 a4) = .inl En from hEn]; rfl
    have hT := vx_table (x := yL_pool) B (hts _ (List.mem_of_getElem? (i := 0) rfl))
    rcases hE En hG with rfl | rfl
    · skip
      refine vx_catch (name := "java/lang/IllegalArgumentException") hown [] ⟨0, 9, 12, 21⟩ [⟨0, 9, 16, 13⟩] hT (fun z hz => by simp at hz) (by decide +kernel) (by decide) (hts _ (List.mem_of_getElem? (i := 1) rfl)) (va_Nw.use rfl (hX.1 _ (by decide))) hc1 hc2 hc3 ?_
      refine lv_astore (lv' := [(5, .ref q9), (0, .ref (ad 0 0)), (1, .int a1), (2, .int a2), (3, .int a3), (4, .int a4)]) hx hb dL_pool_12 hl (by decide) rfl (fun ls hl => ?_)
      refine lv_iconst (v := (nI 1)) hx hb dL_pool_14 (by decide) ?_
      exact W.widen (Nat.le_of_ble_eq_true rfl) (Nat.le_of_ble_eq_true rfl) (xriQ hx hb hr hlocks dL_pool_15 I hS (Or.inl ⟨_, _, hG, Or.inl ⟨rfl, rfl⟩, rfl, rfl⟩))
    · skip
      refine vx_catch (name := "java/lang/IllegalStateException") hown [⟨0, 9, 12, 21⟩] ⟨0, 9, 16, 13⟩ [] hT (fun z hz => by
          rcases List.mem_singleton.mp hz with rfl
          exact Or.inr ⟨(by decide), "java/lang/IllegalArgumentException", hts _ (List.mem_of_getElem? (i := 1) rfl), hX.2 _ (by decide) _ (by decide) (by decide)⟩) (by decide +kernel) (by decide) (hts _ (List.mem_of_getElem? (i := 2) rfl)) (va_Nw.use rfl (hX.1 _ (by decide))) hc1 hc2 hc3 ?_
      refine lv_astore (lv' := [(5, .ref q9), (0, .ref (ad 0 0)), (1, .int a1), (2, .int a2), (3, .int a3), (4, .int a4)]) hx hb dL_pool_16 hl (by decide) rfl (fun ls hl => ?_)
      refine lv_iconst (v := (nI 2)) hx hb dL_pool_18 (by decide) ?_
      exact W.widen (Nat.le_of_ble_eq_true rfl) (Nat.le_of_ble_eq_true rfl) (xriQ hx hb hr hlocks dL_pool_19 I hS (Or.inl ⟨_, _, hG, Or.inr ⟨rfl, rfl⟩, rfl, rfl⟩))

set_option maxHeartbeats 4000000 in
set_option maxRecDepth 100000 in
theorem mL_claim (l : Launch) (lo : Nat) (D : va_G) (E : Nat → ClassId) (h : XW) (hlst : l.stackTraces = false) (Pr : Nat → Prop) (τ : CT) (ad : Nat → Nat → Nat) (fa : Nat → Nat → Option Nat) (hR : RC E Pr τ ad fa h) (hW : CW τ) (ou : Nat) (fo : Nat → Int64) (hou : Pr ou) (ho : h ou = some (.inl (E 1, 1, .inr (.inl fo)))) (a1 : Int32) (a2 : Int32) (a3 : Int32) (a4 : Int32) (a5 : Int32) (hv : cN τ 4 ≤ cN τ 3) (hE : ∀ En, (wIs (fX7_claim τ a1 a2 a3 a4 a5)) = .inl En → En = "java/lang/IndexOutOfBoundsException" ∨ En = "java/lang/IllegalArgumentException" ∨ En = "java/lang/IllegalStateException") : Met l yL_claim wsL_claim ({ frames := 9, cells := 8, slots := 50, locals := 175 } : Room) (xPC lo D E h [.ref (ad 0 0), .int a1, .int a2, .int a3, .int a4, .int a5, .ref ou]) (xQ lo D (wQ E Pr h (ad 0 0) ou fo (wIs (fX7_claim τ a1 a2 a3 a4 a5)) ["java/lang/IndexOutOfBoundsException", "java/lang/IllegalArgumentException", "java/lang/IllegalStateException"])) 8 50 (xA lo) := by
  refine xofWH (cc := cL_claim) (maxL := 8) (ret := (some .int)) (hh := [(0, 16, 19, 19), (0, 16, 23, 21), (0, 16, 27, 13)]) (by decide) rfl ?_
  intro p e s m args below meth c s₁ B hml hv
  obtain ⟨rfl, I, hX⟩ := hv
  have hx := B.exec
  have hb := B.bytes
  have hr := B.returns
  have hts := atoms_spec (ws := wsL_claim) B.pre
  have hown : s.vm.findClass RL = some m.cls := findClass_of_methodNamed B.named
  have hlocks := B.notSynchronized
  have hl := lv_entry ([.ref (ad 0 0), .int a1, .int a2, .int a3, .int a4, .int a5, .ref ou] : List Value) (n := 8) (Nat.le_of_ble_eq_true rfl)
  rw [lg_entry_eq]
  generalize (lg_sl ([.ref (ad 0 0), .int a1, .int a2, .int a3, .int a4, .int a5, .ref ou] : List Value) ++ List.replicate (8 - (lg_sl ([.ref (ad 0 0), .int a1, .int a2, .int a3, .int a4, .int a5, .ref ou] : List Value)).length) Slot.unset).toArray = ls at hl ⊢
  have hl : lv_has ls 8 [(0, .ref (ad 0 0)), (1, .int a1), (2, .int a2), (3, .int a3), (4, .int a4), (5, .int a5), (6, .ref ou)] := hl
  have hS : va_S (xA lo) s.heap s.heap [] := va_S.rf
  refine lv_aload hx hb dL_claim_0 (lv_at hl 6 rfl) ?_
  refine lv_iconst (v := (nI 0)) hx hb dL_claim_2 (by decide) ?_
  refine lv_aload_n hx hb dL_claim_3 rfl (lv_at hl 0 rfl) ?_
  refine lv_iload_n hx hb dL_claim_4 rfl (lv_at hl 1 rfl) ?_
  refine lv_iload_n hx hb dL_claim_5 rfl (lv_at hl 2 rfl) ?_
  refine lv_iload_n hx hb dL_claim_6 rfl (lv_at hl 3 rfl) ?_
  refine lv_iload hx hb dL_claim_7 (lv_at hl 4 rfl) ?_
  refine lv_iload hx hb dL_claim_9 (lv_at hl 5 rfl) ?_
  refine xcvC (As := [.int a1, .int a2, .int a3, .int a4, .int a5]) (rest := [.int (nI 0), .ref ou]) ⟨hx, hb, hml, hown, hts⟩ (mX7_claim l lo D E h hlst Pr τ ad fa hR hW a1 a2 a3 a4 a5 hv) (cwV 5 hts gL_claim_X7_claim rfl rfl rfl (by decide +kernel) ⟨Nat.le_of_ble_eq_true rfl, Nat.le_of_ble_eq_true rfl⟩) I hS hR.f0 rfl rfl hl.1 rfl (Nat.le_of_ble_eq_true rfl) dL_claim_11 ⟨Nat.le_of_ble_eq_true rfl, Nat.le_of_ble_eq_true rfl⟩ (fun v9 hw H locs q9 I hS => ?_) (fun q9 En ce H locs hEn I hS hc1 hc2 hc3 => ?_)
  · skip
    obtain ⟨x9, e9, ad2, fa2, q1, hR2, hF2, hW2, h00⟩ := q9
    subst q1
    refine W.eq (g2 := F0 m 14 ls [.int x9.1, .int (nI 0), .ref ou]) rfl ?_
    refine lv_i2l (v := x9.1.toInt64) hx hb dL_claim_14 rfl ?_
    have ho2 : hw ou = some (.inl (E 1, 1, .inr (.inl fo))) := (hF2 ou hou).trans ho
    refine xlast (i := 0) (n := 1) hx hb I hS ho2 (by decide) (by decide) dL_claim_15 (fun H locs I hS => ?_)
    have hR3 := hR2.out (e := .inl (E 1, 1, .inr (.inl (vp_updL fo 0 x9.1.toInt64)))) hou
    refine lv_goto (tgt := 31) hx hb dL_claim_16 (by decide) ?_
    refine lv_iconst (v := (nI 0)) hx hb dL_claim_31 (by decide) ?_
    exact W.widen (Nat.le_of_ble_eq_true rfl) (Nat.le_of_ble_eq_true rfl) (xriQ hx hb hr hlocks dL_claim_32 I hS (Or.inr ⟨some x9.1.toInt64, x9.2, (by rw [e9]; simp only [wIs]), rfl, hW2, fun q hq hn => (hset_n hn).trans (hF2 q hq), ⟨ad2, fa2, hR3, h00⟩, hset_s⟩))
  · skip
    have hG : (wIs (fX7_claim τ a1 a2 a3 a4 a5)) = .inl En := by rw [show (fX7_claim τ a1 a2 a3 a4 a5) = .inl En from hEn]; rfl
    have hT := vx_table (x := yL_claim) B (hts _ (List.mem_of_getElem? (i := 0) rfl))
    rcases hE En hG with rfl | rfl | rfl
    · skip
      refine vx_catch (name := "java/lang/IndexOutOfBoundsException") hown [] ⟨0, 16, 19, 19⟩ [⟨0, 16, 23, 21⟩, ⟨0, 16, 27, 13⟩] hT (fun z hz => by simp at hz) (by decide +kernel) (by decide) (hts _ (List.mem_of_getElem? (i := 1) rfl)) (va_Nw.use rfl (hX.1 _ (by decide))) hc1 hc2 hc3 ?_
      refine lv_astore (lv' := [(7, .ref q9), (0, .ref (ad 0 0)), (1, .int a1), (2, .int a2), (3, .int a3), (4, .int a4), (5, .int a5), (6, .ref ou)]) hx hb dL_claim_19 hl (by decide) rfl (fun ls hl => ?_)
      refine lv_iconst (v := (nI 1)) hx hb dL_claim_21 (by decide) ?_
      exact W.widen (Nat.le_of_ble_eq_true rfl) (Nat.le_of_ble_eq_true rfl) (xriQ hx hb hr hlocks dL_claim_22 I hS (Or.inl ⟨_, _, hG, Or.inl ⟨rfl, rfl⟩, rfl, rfl⟩))
    · skip
      refine vx_catch (name := "java/lang/IllegalArgumentException") hown [⟨0, 16, 19, 19⟩] ⟨0, 16, 23, 21⟩ [⟨0, 16, 27, 13⟩] hT (fun z hz => by
          rcases List.mem_singleton.mp hz with rfl
          exact Or.inr ⟨(by decide), "java/lang/IndexOutOfBoundsException", hts _ (List.mem_of_getElem? (i := 1) rfl), hX.2 _ (by decide) _ (by decide) (by decide)⟩) (by decide +kernel) (by decide) (hts _ (List.mem_of_getElem? (i := 2) rfl)) (va_Nw.use rfl (hX.1 _ (by decide))) hc1 hc2 hc3 ?_
      refine lv_astore (lv' := [(7, .ref q9), (0, .ref (ad 0 0)), (1, .int a1), (2, .int a2), (3, .int a3), (4, .int a4), (5, .int a5), (6, .ref ou)]) hx hb dL_claim_23 hl (by decide) rfl (fun ls hl => ?_)
      refine lv_iconst (v := (nI 2)) hx hb dL_claim_25 (by decide) ?_
      exact W.widen (Nat.le_of_ble_eq_true rfl) (Nat.le_of_ble_eq_true rfl) (xriQ hx hb hr hlocks dL_claim_26 I hS (Or.inl ⟨_, _, hG, Or.inr (Or.inl ⟨rfl, rfl⟩), rfl, rfl⟩))
    · skip
      refine vx_catch (name := "java/lang/IllegalStateException") hown [⟨0, 16, 19, 19⟩, ⟨0, 16, 23, 21⟩] ⟨0, 16, 27, 13⟩ [] hT (fun z hz => by
          rcases List.mem_cons.mp hz with rfl | hz
          · exact Or.inr ⟨(by decide), "java/lang/IndexOutOfBoundsException", hts _ (List.mem_of_getElem? (i := 1) rfl), hX.2 _ (by decide) _ (by decide) (by decide)⟩
          · rcases List.mem_singleton.mp hz with rfl
            exact Or.inr ⟨(by decide), "java/lang/IllegalArgumentException", hts _ (List.mem_of_getElem? (i := 2) rfl), hX.2 _ (by decide) _ (by decide) (by decide)⟩) (by decide +kernel) (by decide) (hts _ (List.mem_of_getElem? (i := 3) rfl)) (va_Nw.use rfl (hX.1 _ (by decide))) hc1 hc2 hc3 ?_
      refine lv_astore (lv' := [(7, .ref q9), (0, .ref (ad 0 0)), (1, .int a1), (2, .int a2), (3, .int a3), (4, .int a4), (5, .int a5), (6, .ref ou)]) hx hb dL_claim_27 hl (by decide) rfl (fun ls hl => ?_)
      refine lv_iconst (v := (nI 3)) hx hb dL_claim_29 (by decide) ?_
      exact W.widen (Nat.le_of_ble_eq_true rfl) (Nat.le_of_ble_eq_true rfl) (xriQ hx hb hr hlocks dL_claim_30 I hS (Or.inl ⟨_, _, hG, Or.inr (Or.inr ⟨rfl, rfl⟩), rfl, rfl⟩))

set_option maxHeartbeats 4000000 in
set_option maxRecDepth 100000 in
theorem mL_collide (l : Launch) (lo : Nat) (D : va_G) (E : Nat → ClassId) (h : XW) (hlst : l.stackTraces = false) (Pr : Nat → Prop) (τ : CT) (ad : Nat → Nat → Nat) (fa : Nat → Nat → Option Nat) (hR : RC E Pr τ ad fa h) (hW : CW τ) (ou : Nat) (fo : Nat → Int64) (hou : Pr ou) (ho : h ou = some (.inl (E 1, 1, .inr (.inl fo)))) (a1 : Int32) (a2 : Int32) (a3 : Int32) (a4 : Int32) (a5 : Int32) (hv : cN τ 4 ≤ cN τ 3) (hE : ∀ En, (wIs (fX7_collide τ a1 a2 a3 a4 a5)) = .inl En → En = "java/lang/IndexOutOfBoundsException" ∨ En = "java/lang/IllegalArgumentException" ∨ En = "java/lang/IllegalStateException") : Met l yL_collide wsL_collide ({ frames := 9, cells := 9, slots := 55, locals := 177 } : Room) (xPC lo D E h [.ref (ad 0 0), .int a1, .int a2, .int a3, .int a4, .int a5, .ref ou]) (xQ lo D (wQ E Pr h (ad 0 0) ou fo (wIs (fX7_collide τ a1 a2 a3 a4 a5)) ["java/lang/IndexOutOfBoundsException", "java/lang/IllegalArgumentException", "java/lang/IllegalStateException"])) 9 55 (xA lo) := by
  refine xofWH (cc := cL_collide) (maxL := 8) (ret := (some .int)) (hh := [(0, 16, 19, 19), (0, 16, 23, 21), (0, 16, 27, 13)]) (by decide) rfl ?_
  intro p e s m args below meth c s₁ B hml hv
  obtain ⟨rfl, I, hX⟩ := hv
  have hx := B.exec
  have hb := B.bytes
  have hr := B.returns
  have hts := atoms_spec (ws := wsL_collide) B.pre
  have hown : s.vm.findClass RL = some m.cls := findClass_of_methodNamed B.named
  have hlocks := B.notSynchronized
  have hl := lv_entry ([.ref (ad 0 0), .int a1, .int a2, .int a3, .int a4, .int a5, .ref ou] : List Value) (n := 8) (Nat.le_of_ble_eq_true rfl)
  rw [lg_entry_eq]
  generalize (lg_sl ([.ref (ad 0 0), .int a1, .int a2, .int a3, .int a4, .int a5, .ref ou] : List Value) ++ List.replicate (8 - (lg_sl ([.ref (ad 0 0), .int a1, .int a2, .int a3, .int a4, .int a5, .ref ou] : List Value)).length) Slot.unset).toArray = ls at hl ⊢
  have hl : lv_has ls 8 [(0, .ref (ad 0 0)), (1, .int a1), (2, .int a2), (3, .int a3), (4, .int a4), (5, .int a5), (6, .ref ou)] := hl
  have hS : va_S (xA lo) s.heap s.heap [] := va_S.rf
  refine lv_aload hx hb dL_collide_0 (lv_at hl 6 rfl) ?_
  refine lv_iconst (v := (nI 0)) hx hb dL_collide_2 (by decide) ?_
  refine lv_aload_n hx hb dL_collide_3 rfl (lv_at hl 0 rfl) ?_
  refine lv_iload_n hx hb dL_collide_4 rfl (lv_at hl 1 rfl) ?_
  refine lv_iload_n hx hb dL_collide_5 rfl (lv_at hl 2 rfl) ?_
  refine lv_iload_n hx hb dL_collide_6 rfl (lv_at hl 3 rfl) ?_
  refine lv_iload hx hb dL_collide_7 (lv_at hl 4 rfl) ?_
  refine lv_iload hx hb dL_collide_9 (lv_at hl 5 rfl) ?_
  refine xcvC (As := [.int a1, .int a2, .int a3, .int a4, .int a5]) (rest := [.int (nI 0), .ref ou]) ⟨hx, hb, hml, hown, hts⟩ (mX7_collide l lo D E h hlst Pr τ ad fa hR hW a1 a2 a3 a4 a5 hv) (cwV 5 hts gL_collide_X7_collide rfl rfl rfl (by decide +kernel) ⟨Nat.le_of_ble_eq_true rfl, Nat.le_of_ble_eq_true rfl⟩) I hS hR.f0 rfl rfl hl.1 rfl (Nat.le_of_ble_eq_true rfl) dL_collide_11 ⟨Nat.le_of_ble_eq_true rfl, Nat.le_of_ble_eq_true rfl⟩ (fun v9 hw H locs q9 I hS => ?_) (fun q9 En ce H locs hEn I hS hc1 hc2 hc3 => ?_)
  · skip
    obtain ⟨x9, e9, ad2, fa2, q1, hR2, hF2, hW2, h00⟩ := q9
    subst q1
    refine W.eq (g2 := F0 m 14 ls [.int x9.1, .int (nI 0), .ref ou]) rfl ?_
    refine lv_i2l (v := x9.1.toInt64) hx hb dL_collide_14 rfl ?_
    have ho2 : hw ou = some (.inl (E 1, 1, .inr (.inl fo))) := (hF2 ou hou).trans ho
    refine xlast (i := 0) (n := 1) hx hb I hS ho2 (by decide) (by decide) dL_collide_15 (fun H locs I hS => ?_)
    have hR3 := hR2.out (e := .inl (E 1, 1, .inr (.inl (vp_updL fo 0 x9.1.toInt64)))) hou
    refine lv_goto (tgt := 31) hx hb dL_collide_16 (by decide) ?_
    refine lv_iconst (v := (nI 0)) hx hb dL_collide_31 (by decide) ?_
    exact W.widen (Nat.le_of_ble_eq_true rfl) (Nat.le_of_ble_eq_true rfl) (xriQ hx hb hr hlocks dL_collide_32 I hS (Or.inr ⟨some x9.1.toInt64, x9.2, (by rw [e9]; simp only [wIs]), rfl, hW2, fun q hq hn => (hset_n hn).trans (hF2 q hq), ⟨ad2, fa2, hR3, h00⟩, hset_s⟩))
  · skip
    have hG : (wIs (fX7_collide τ a1 a2 a3 a4 a5)) = .inl En := by rw [show (fX7_collide τ a1 a2 a3 a4 a5) = .inl En from hEn]; rfl
    have hT := vx_table (x := yL_collide) B (hts _ (List.mem_of_getElem? (i := 0) rfl))
    rcases hE En hG with rfl | rfl | rfl
    · skip
      refine vx_catch (name := "java/lang/IndexOutOfBoundsException") hown [] ⟨0, 16, 19, 19⟩ [⟨0, 16, 23, 21⟩, ⟨0, 16, 27, 13⟩] hT (fun z hz => by simp at hz) (by decide +kernel) (by decide) (hts _ (List.mem_of_getElem? (i := 1) rfl)) (va_Nw.use rfl (hX.1 _ (by decide))) hc1 hc2 hc3 ?_
      refine lv_astore (lv' := [(7, .ref q9), (0, .ref (ad 0 0)), (1, .int a1), (2, .int a2), (3, .int a3), (4, .int a4), (5, .int a5), (6, .ref ou)]) hx hb dL_collide_19 hl (by decide) rfl (fun ls hl => ?_)
      refine lv_iconst (v := (nI 1)) hx hb dL_collide_21 (by decide) ?_
      exact W.widen (Nat.le_of_ble_eq_true rfl) (Nat.le_of_ble_eq_true rfl) (xriQ hx hb hr hlocks dL_collide_22 I hS (Or.inl ⟨_, _, hG, Or.inl ⟨rfl, rfl⟩, rfl, rfl⟩))
    · skip
      refine vx_catch (name := "java/lang/IllegalArgumentException") hown [⟨0, 16, 19, 19⟩] ⟨0, 16, 23, 21⟩ [⟨0, 16, 27, 13⟩] hT (fun z hz => by
          rcases List.mem_singleton.mp hz with rfl
          exact Or.inr ⟨(by decide), "java/lang/IndexOutOfBoundsException", hts _ (List.mem_of_getElem? (i := 1) rfl), hX.2 _ (by decide) _ (by decide) (by decide)⟩) (by decide +kernel) (by decide) (hts _ (List.mem_of_getElem? (i := 2) rfl)) (va_Nw.use rfl (hX.1 _ (by decide))) hc1 hc2 hc3 ?_
      refine lv_astore (lv' := [(7, .ref q9), (0, .ref (ad 0 0)), (1, .int a1), (2, .int a2), (3, .int a3), (4, .int a4), (5, .int a5), (6, .ref ou)]) hx hb dL_collide_23 hl (by decide) rfl (fun ls hl => ?_)
      refine lv_iconst (v := (nI 2)) hx hb dL_collide_25 (by decide) ?_
      exact W.widen (Nat.le_of_ble_eq_true rfl) (Nat.le_of_ble_eq_true rfl) (xriQ hx hb hr hlocks dL_collide_26 I hS (Or.inl ⟨_, _, hG, Or.inr (Or.inl ⟨rfl, rfl⟩), rfl, rfl⟩))
    · skip
      refine vx_catch (name := "java/lang/IllegalStateException") hown [⟨0, 16, 19, 19⟩, ⟨0, 16, 23, 21⟩] ⟨0, 16, 27, 13⟩ [] hT (fun z hz => by
          rcases List.mem_cons.mp hz with rfl | hz
          · exact Or.inr ⟨(by decide), "java/lang/IndexOutOfBoundsException", hts _ (List.mem_of_getElem? (i := 1) rfl), hX.2 _ (by decide) _ (by decide) (by decide)⟩
          · rcases List.mem_singleton.mp hz with rfl
            exact Or.inr ⟨(by decide), "java/lang/IllegalArgumentException", hts _ (List.mem_of_getElem? (i := 2) rfl), hX.2 _ (by decide) _ (by decide) (by decide)⟩) (by decide +kernel) (by decide) (hts _ (List.mem_of_getElem? (i := 3) rfl)) (va_Nw.use rfl (hX.1 _ (by decide))) hc1 hc2 hc3 ?_
      refine lv_astore (lv' := [(7, .ref q9), (0, .ref (ad 0 0)), (1, .int a1), (2, .int a2), (3, .int a3), (4, .int a4), (5, .int a5), (6, .ref ou)]) hx hb dL_collide_27 hl (by decide) rfl (fun ls hl => ?_)
      refine lv_iconst (v := (nI 3)) hx hb dL_collide_29 (by decide) ?_
      exact W.widen (Nat.le_of_ble_eq_true rfl) (Nat.le_of_ble_eq_true rfl) (xriQ hx hb hr hlocks dL_collide_30 I hS (Or.inl ⟨_, _, hG, Or.inr (Or.inr ⟨rfl, rfl⟩), rfl, rfl⟩))

set_option maxHeartbeats 4000000 in
set_option maxRecDepth 100000 in
theorem mL_estimate (l : Launch) (lo : Nat) (D : va_G) (E : Nat → ClassId) (h : XW) (hlst : l.stackTraces = false) (Pr : Nat → Prop) (τ : CT) (ad : Nat → Nat → Nat) (fa : Nat → Nat → Option Nat) (hR : RC E Pr τ ad fa h) (hW : CW τ) (ou : Nat) (fo : Nat → Int64) (hou : Pr ou) (ho : h ou = some (.inl (E 1, 1, .inr (.inl fo)))) (a1 : Int32) (a2 : Int32) (hE : ∀ En, (wIs (fX7_estimate τ a1 a2)) = .inl En → En = "java/lang/IndexOutOfBoundsException" ∨ En = "java/lang/IllegalArgumentException" ∨ En = "java/lang/IllegalStateException") : Met l yL_estimate wsL_estimate ({ frames := 9, cells := 3, slots := 18, locals := 172 } : Room) (xPC lo D E h [.ref (ad 0 0), .int a1, .int a2, .ref ou]) (xQ lo D (wQ E Pr h (ad 0 0) ou fo (wIs (fX7_estimate τ a1 a2)) ["java/lang/IndexOutOfBoundsException", "java/lang/IllegalArgumentException", "java/lang/IllegalStateException"])) 3 18 (xA lo) := by
  refine xofWH (cc := cL_estimate) (maxL := 5) (ret := (some .int)) (hh := [(0, 10, 13, 19), (0, 10, 17, 21), (0, 10, 21, 13)]) (by decide) rfl ?_
  intro p e s m args below meth c s₁ B hml hv
  obtain ⟨rfl, I, hX⟩ := hv
  have hx := B.exec
  have hb := B.bytes
  have hr := B.returns
  have hts := atoms_spec (ws := wsL_estimate) B.pre
  have hown : s.vm.findClass RL = some m.cls := findClass_of_methodNamed B.named
  have hlocks := B.notSynchronized
  have hl := lv_entry ([.ref (ad 0 0), .int a1, .int a2, .ref ou] : List Value) (n := 5) (Nat.le_of_ble_eq_true rfl)
  rw [lg_entry_eq]
  generalize (lg_sl ([.ref (ad 0 0), .int a1, .int a2, .ref ou] : List Value) ++ List.replicate (5 - (lg_sl ([.ref (ad 0 0), .int a1, .int a2, .ref ou] : List Value)).length) Slot.unset).toArray = ls at hl ⊢
  have hl : lv_has ls 5 [(0, .ref (ad 0 0)), (1, .int a1), (2, .int a2), (3, .ref ou)] := hl
  have hS : va_S (xA lo) s.heap s.heap [] := va_S.rf
  refine lv_aload_n hx hb dL_estimate_0 rfl (lv_at hl 3 rfl) ?_
  refine lv_iconst (v := (nI 0)) hx hb dL_estimate_1 (by decide) ?_
  refine lv_aload_n hx hb dL_estimate_2 rfl (lv_at hl 0 rfl) ?_
  refine lv_iload_n hx hb dL_estimate_3 rfl (lv_at hl 1 rfl) ?_
  refine lv_iload_n hx hb dL_estimate_4 rfl (lv_at hl 2 rfl) ?_
  refine xcvC (As := [.int a1, .int a2]) (rest := [.int (nI 0), .ref ou]) ⟨hx, hb, hml, hown, hts⟩ (mX7_estimate l lo D E h hlst Pr τ ad fa hR hW a1 a2) (cwV 2 hts gL_estimate_X7_estimate rfl rfl rfl (by decide +kernel) ⟨Nat.le_of_ble_eq_true rfl, Nat.le_of_ble_eq_true rfl⟩) I hS hR.f0 rfl rfl hl.1 rfl (Nat.le_of_ble_eq_true rfl) dL_estimate_5 ⟨Nat.le_of_ble_eq_true rfl, Nat.le_of_ble_eq_true rfl⟩ (fun v9 hw H locs q9 I hS => ?_) (fun q9 En ce H locs hEn I hS hc1 hc2 hc3 => ?_)
  · skip
    obtain ⟨x9, e9, q1, hR2, hF2, hW2⟩ := q9
    subst q1
    refine W.eq (g2 := F0 m 8 ls [.int x9.1, .int (nI 0), .ref ou]) rfl ?_
    refine lv_i2l (v := x9.1.toInt64) hx hb dL_estimate_8 rfl ?_
    have ho2 : hw ou = some (.inl (E 1, 1, .inr (.inl fo))) := (hF2 ou hou).trans ho
    refine xlast (i := 0) (n := 1) hx hb I hS ho2 (by decide) (by decide) dL_estimate_9 (fun H locs I hS => ?_)
    have hR3 := hR2.out (e := .inl (E 1, 1, .inr (.inl (vp_updL fo 0 x9.1.toInt64)))) hou
    refine lv_goto (tgt := 25) hx hb dL_estimate_10 (by decide) ?_
    refine lv_iconst (v := (nI 0)) hx hb dL_estimate_25 (by decide) ?_
    exact W.widen (Nat.le_of_ble_eq_true rfl) (Nat.le_of_ble_eq_true rfl) (xriQ hx hb hr hlocks dL_estimate_26 I hS (Or.inr ⟨some x9.1.toInt64, x9.2, (by rw [e9]; simp only [wIs]), rfl, hW2, fun q hq hn => (hset_n hn).trans (hF2 q hq), ⟨ad, fa, hR3, rfl⟩, hset_s⟩))
  · skip
    have hG : (wIs (fX7_estimate τ a1 a2)) = .inl En := by rw [show (fX7_estimate τ a1 a2) = .inl En from hEn]; rfl
    have hT := vx_table (x := yL_estimate) B (hts _ (List.mem_of_getElem? (i := 0) rfl))
    rcases hE En hG with rfl | rfl | rfl
    · skip
      refine vx_catch (name := "java/lang/IndexOutOfBoundsException") hown [] ⟨0, 10, 13, 19⟩ [⟨0, 10, 17, 21⟩, ⟨0, 10, 21, 13⟩] hT (fun z hz => by simp at hz) (by decide +kernel) (by decide) (hts _ (List.mem_of_getElem? (i := 1) rfl)) (va_Nw.use rfl (hX.1 _ (by decide))) hc1 hc2 hc3 ?_
      refine lv_astore (lv' := [(4, .ref q9), (0, .ref (ad 0 0)), (1, .int a1), (2, .int a2), (3, .ref ou)]) hx hb dL_estimate_13 hl (by decide) rfl (fun ls hl => ?_)
      refine lv_iconst (v := (nI 1)) hx hb dL_estimate_15 (by decide) ?_
      exact W.widen (Nat.le_of_ble_eq_true rfl) (Nat.le_of_ble_eq_true rfl) (xriQ hx hb hr hlocks dL_estimate_16 I hS (Or.inl ⟨_, _, hG, Or.inl ⟨rfl, rfl⟩, rfl, rfl⟩))
    · skip
      refine vx_catch (name := "java/lang/IllegalArgumentException") hown [⟨0, 10, 13, 19⟩] ⟨0, 10, 17, 21⟩ [⟨0, 10, 21, 13⟩] hT (fun z hz => by
          rcases List.mem_singleton.mp hz with rfl
          exact Or.inr ⟨(by decide), "java/lang/IndexOutOfBoundsException", hts _ (List.mem_of_getElem? (i := 1) rfl), hX.2 _ (by decide) _ (by decide) (by decide)⟩) (by decide +kernel) (by decide) (hts _ (List.mem_of_getElem? (i := 2) rfl)) (va_Nw.use rfl (hX.1 _ (by decide))) hc1 hc2 hc3 ?_
      refine lv_astore (lv' := [(4, .ref q9), (0, .ref (ad 0 0)), (1, .int a1), (2, .int a2), (3, .ref ou)]) hx hb dL_estimate_17 hl (by decide) rfl (fun ls hl => ?_)
      refine lv_iconst (v := (nI 2)) hx hb dL_estimate_19 (by decide) ?_
      exact W.widen (Nat.le_of_ble_eq_true rfl) (Nat.le_of_ble_eq_true rfl) (xriQ hx hb hr hlocks dL_estimate_20 I hS (Or.inl ⟨_, _, hG, Or.inr (Or.inl ⟨rfl, rfl⟩), rfl, rfl⟩))
    · skip
      refine vx_catch (name := "java/lang/IllegalStateException") hown [⟨0, 10, 13, 19⟩, ⟨0, 10, 17, 21⟩] ⟨0, 10, 21, 13⟩ [] hT (fun z hz => by
          rcases List.mem_cons.mp hz with rfl | hz
          · exact Or.inr ⟨(by decide), "java/lang/IndexOutOfBoundsException", hts _ (List.mem_of_getElem? (i := 1) rfl), hX.2 _ (by decide) _ (by decide) (by decide)⟩
          · rcases List.mem_singleton.mp hz with rfl
            exact Or.inr ⟨(by decide), "java/lang/IllegalArgumentException", hts _ (List.mem_of_getElem? (i := 2) rfl), hX.2 _ (by decide) _ (by decide) (by decide)⟩) (by decide +kernel) (by decide) (hts _ (List.mem_of_getElem? (i := 3) rfl)) (va_Nw.use rfl (hX.1 _ (by decide))) hc1 hc2 hc3 ?_
      refine lv_astore (lv' := [(4, .ref q9), (0, .ref (ad 0 0)), (1, .int a1), (2, .int a2), (3, .ref ou)]) hx hb dL_estimate_21 hl (by decide) rfl (fun ls hl => ?_)
      refine lv_iconst (v := (nI 3)) hx hb dL_estimate_23 (by decide) ?_
      exact W.widen (Nat.le_of_ble_eq_true rfl) (Nat.le_of_ble_eq_true rfl) (xriQ hx hb hr hlocks dL_estimate_24 I hS (Or.inl ⟨_, _, hG, Or.inr (Or.inr ⟨rfl, rfl⟩), rfl, rfl⟩))

set_option maxHeartbeats 4000000 in
set_option maxRecDepth 100000 in
theorem mL_settle (l : Launch) (lo : Nat) (D : va_G) (E : Nat → ClassId) (h : XW) (hlst : l.stackTraces = false) (Pr : Nat → Prop) (τ : CT) (ad : Nat → Nat → Nat) (fa : Nat → Nat → Option Nat) (hR : RC E Pr τ ad fa h) (hW : CW τ) (ou : Nat) (fo : Nat → Int64) (hou : Pr ou) (ho : h ou = some (.inl (E 1, 1, .inr (.inl fo)))) (a1 : Int32) (a2 : Int32) (za2 : a2 = 0 ∨ a2 = 1) (hE : ∀ En, (wVs (fX7_settle τ a1 a2)) = .inl En → En = "java/lang/IndexOutOfBoundsException" ∨ En = "java/lang/IllegalStateException") : Met l yL_settle wsL_settle ({ frames := 8, cells := 2, slots := 12, locals := 150 } : Room) (xPC lo D E h [.ref (ad 0 0), .int a1, .int a2]) (xQ lo D (wQ E Pr h (ad 0 0) ou fo (wVs (fX7_settle τ a1 a2)) ["java/lang/IndexOutOfBoundsException", "java/lang/IllegalStateException"])) 2 12 (xA lo) := by
  refine xofWH (cc := cL_settle) (maxL := 4) (ret := (some .int)) (hh := [(0, 6, 9, 19), (0, 6, 12, 13)]) (by decide) rfl ?_
  intro p e s m args below meth c s₁ B hml hv
  obtain ⟨rfl, I, hX⟩ := hv
  have hx := B.exec
  have hb := B.bytes
  have hr := B.returns
  have hts := atoms_spec (ws := wsL_settle) B.pre
  have hown : s.vm.findClass RL = some m.cls := findClass_of_methodNamed B.named
  have hlocks := B.notSynchronized
  have hl := lv_entry ([.ref (ad 0 0), .int a1, .int a2] : List Value) (n := 4) (Nat.le_of_ble_eq_true rfl)
  rw [lg_entry_eq]
  generalize (lg_sl ([.ref (ad 0 0), .int a1, .int a2] : List Value) ++ List.replicate (4 - (lg_sl ([.ref (ad 0 0), .int a1, .int a2] : List Value)).length) Slot.unset).toArray = ls at hl ⊢
  have hl : lv_has ls 4 [(0, .ref (ad 0 0)), (1, .int a1), (2, .int a2)] := hl
  have hS : va_S (xA lo) s.heap s.heap [] := va_S.rf
  refine lv_aload_n hx hb dL_settle_0 rfl (lv_at hl 0 rfl) ?_
  refine lv_iload_n hx hb dL_settle_1 rfl (lv_at hl 1 rfl) ?_
  refine lv_iload_n hx hb dL_settle_2 rfl (lv_at hl 2 rfl) ?_
  refine xcvC (As := [.int a1, .int a2]) (rest := []) ⟨hx, hb, hml, hown, hts⟩ (mX7_settle l lo D E h hlst Pr τ ad fa hR hW a1 a2 za2) (cwV 2 hts gL_settle_X7_settle rfl rfl rfl (by decide +kernel) ⟨Nat.le_of_ble_eq_true rfl, Nat.le_of_ble_eq_true rfl⟩) I hS hR.f0 rfl rfl hl.1 rfl (Nat.le_of_ble_eq_true rfl) dL_settle_3 ⟨Nat.le_of_ble_eq_true rfl, Nat.le_of_ble_eq_true rfl⟩ (fun v9 hw H locs q9 I hS => ?_) (fun q9 En ce H locs hEn I hS hc1 hc2 hc3 => ?_)
  · skip
    obtain ⟨x9, e9, q1, hR2, hF2, hW2⟩ := q9
    subst q1
    have hR3 := hR2
    refine lv_goto (tgt := 15) hx hb dL_settle_6 (by decide) ?_
    refine lv_iconst (v := (nI 0)) hx hb dL_settle_15 (by decide) ?_
    exact W.widen (Nat.le_of_ble_eq_true rfl) (Nat.le_of_ble_eq_true rfl) (xriQ hx hb hr hlocks dL_settle_16 I hS (Or.inr ⟨none, x9, (by rw [e9]; simp only [wVs]), rfl, hW2, fun q hq hn => hF2 q hq, ⟨ad, fa, hR3, rfl⟩, (hF2 ou hou).trans ho⟩))
  · skip
    have hG : (wVs (fX7_settle τ a1 a2)) = .inl En := by rw [show (fX7_settle τ a1 a2) = .inl En from hEn]; rfl
    have hT := vx_table (x := yL_settle) B (hts _ (List.mem_of_getElem? (i := 0) rfl))
    rcases hE En hG with rfl | rfl
    · skip
      refine vx_catch (name := "java/lang/IndexOutOfBoundsException") hown [] ⟨0, 6, 9, 19⟩ [⟨0, 6, 12, 13⟩] hT (fun z hz => by simp at hz) (by decide +kernel) (by decide) (hts _ (List.mem_of_getElem? (i := 1) rfl)) (va_Nw.use rfl (hX.1 _ (by decide))) hc1 hc2 hc3 ?_
      refine lv_astore_n (lv' := [(3, .ref q9), (0, .ref (ad 0 0)), (1, .int a1), (2, .int a2)]) hx hb dL_settle_9 rfl hl (by decide) rfl (fun ls hl => ?_)
      refine lv_iconst (v := (nI 1)) hx hb dL_settle_10 (by decide) ?_
      exact W.widen (Nat.le_of_ble_eq_true rfl) (Nat.le_of_ble_eq_true rfl) (xriQ hx hb hr hlocks dL_settle_11 I hS (Or.inl ⟨_, _, hG, Or.inl ⟨rfl, rfl⟩, rfl, rfl⟩))
    · skip
      refine vx_catch (name := "java/lang/IllegalStateException") hown [⟨0, 6, 9, 19⟩] ⟨0, 6, 12, 13⟩ [] hT (fun z hz => by
          rcases List.mem_singleton.mp hz with rfl
          exact Or.inr ⟨(by decide), "java/lang/IndexOutOfBoundsException", hts _ (List.mem_of_getElem? (i := 1) rfl), hX.2 _ (by decide) _ (by decide) (by decide)⟩) (by decide +kernel) (by decide) (hts _ (List.mem_of_getElem? (i := 2) rfl)) (va_Nw.use rfl (hX.1 _ (by decide))) hc1 hc2 hc3 ?_
      refine lv_astore_n (lv' := [(3, .ref q9), (0, .ref (ad 0 0)), (1, .int a1), (2, .int a2)]) hx hb dL_settle_12 rfl hl (by decide) rfl (fun ls hl => ?_)
      refine lv_iconst (v := (nI 2)) hx hb dL_settle_13 (by decide) ?_
      exact W.widen (Nat.le_of_ble_eq_true rfl) (Nat.le_of_ble_eq_true rfl) (xriQ hx hb hr hlocks dL_settle_14 I hS (Or.inl ⟨_, _, hG, Or.inr ⟨rfl, rfl⟩, rfl, rfl⟩))

set_option maxHeartbeats 4000000 in
set_option maxRecDepth 100000 in
theorem mL_broken (l : Launch) (lo : Nat) (D : va_G) (E : Nat → ClassId) (h : XW) (hlst : l.stackTraces = false) (Pr : Nat → Prop) (τ : CT) (ad : Nat → Nat → Nat) (fa : Nat → Nat → Option Nat) (hR : RC E Pr τ ad fa h) (hW : CW τ) (ou : Nat) (fo : Nat → Int64) (hou : Pr ou) (ho : h ou = some (.inl (E 1, 1, .inr (.inl fo)))) (a1 : Int32) (hE : ∀ En, (wVs (fX7_broken τ a1)) = .inl En → En = "java/lang/IndexOutOfBoundsException" ∨ En = "java/lang/IllegalStateException") : Met l yL_broken wsL_broken ({ frames := 8, cells := 3, slots := 18, locals := 149 } : Room) (xPC lo D E h [.ref (ad 0 0), .int a1]) (xQ lo D (wQ E Pr h (ad 0 0) ou fo (wVs (fX7_broken τ a1)) ["java/lang/IndexOutOfBoundsException", "java/lang/IllegalStateException"])) 3 18 (xA lo) := by
  refine xofWH (cc := cL_broken) (maxL := 3) (ret := (some .int)) (hh := [(0, 5, 8, 19), (0, 5, 11, 13)]) (by decide) rfl ?_
  intro p e s m args below meth c s₁ B hml hv
  obtain ⟨rfl, I, hX⟩ := hv
  have hx := B.exec
  have hb := B.bytes
  have hr := B.returns
  have hts := atoms_spec (ws := wsL_broken) B.pre
  have hown : s.vm.findClass RL = some m.cls := findClass_of_methodNamed B.named
  have hlocks := B.notSynchronized
  have hl := lv_entry ([.ref (ad 0 0), .int a1] : List Value) (n := 3) (Nat.le_of_ble_eq_true rfl)
  rw [lg_entry_eq]
  generalize (lg_sl ([.ref (ad 0 0), .int a1] : List Value) ++ List.replicate (3 - (lg_sl ([.ref (ad 0 0), .int a1] : List Value)).length) Slot.unset).toArray = ls at hl ⊢
  have hl : lv_has ls 3 [(0, .ref (ad 0 0)), (1, .int a1)] := hl
  have hS : va_S (xA lo) s.heap s.heap [] := va_S.rf
  refine lv_aload_n hx hb dL_broken_0 rfl (lv_at hl 0 rfl) ?_
  refine lv_iload_n hx hb dL_broken_1 rfl (lv_at hl 1 rfl) ?_
  refine xcvC (As := [.int a1]) (rest := []) ⟨hx, hb, hml, hown, hts⟩ (mX7_broken l lo D E h hlst Pr τ ad fa hR hW a1) (cwV 1 hts gL_broken_X7_broken rfl rfl rfl (by decide +kernel) ⟨Nat.le_of_ble_eq_true rfl, Nat.le_of_ble_eq_true rfl⟩) I hS hR.f0 rfl rfl hl.1 rfl (Nat.le_of_ble_eq_true rfl) dL_broken_2 ⟨Nat.le_of_ble_eq_true rfl, Nat.le_of_ble_eq_true rfl⟩ (fun v9 hw H locs q9 I hS => ?_) (fun q9 En ce H locs hEn I hS hc1 hc2 hc3 => ?_)
  · skip
    obtain ⟨x9, e9, q1, hR2, hF2, hW2⟩ := q9
    subst q1
    have hR3 := hR2
    refine lv_goto (tgt := 14) hx hb dL_broken_5 (by decide) ?_
    refine lv_iconst (v := (nI 0)) hx hb dL_broken_14 (by decide) ?_
    exact W.widen (Nat.le_of_ble_eq_true rfl) (Nat.le_of_ble_eq_true rfl) (xriQ hx hb hr hlocks dL_broken_15 I hS (Or.inr ⟨none, x9, (by rw [e9]; simp only [wVs]), rfl, hW2, fun q hq hn => hF2 q hq, ⟨ad, fa, hR3, rfl⟩, (hF2 ou hou).trans ho⟩))
  · skip
    have hG : (wVs (fX7_broken τ a1)) = .inl En := by rw [show (fX7_broken τ a1) = .inl En from hEn]; rfl
    have hT := vx_table (x := yL_broken) B (hts _ (List.mem_of_getElem? (i := 0) rfl))
    rcases hE En hG with rfl | rfl
    · skip
      refine vx_catch (name := "java/lang/IndexOutOfBoundsException") hown [] ⟨0, 5, 8, 19⟩ [⟨0, 5, 11, 13⟩] hT (fun z hz => by simp at hz) (by decide +kernel) (by decide) (hts _ (List.mem_of_getElem? (i := 1) rfl)) (va_Nw.use rfl (hX.1 _ (by decide))) hc1 hc2 hc3 ?_
      refine lv_astore_n (lv' := [(2, .ref q9), (0, .ref (ad 0 0)), (1, .int a1)]) hx hb dL_broken_8 rfl hl (by decide) rfl (fun ls hl => ?_)
      refine lv_iconst (v := (nI 1)) hx hb dL_broken_9 (by decide) ?_
      exact W.widen (Nat.le_of_ble_eq_true rfl) (Nat.le_of_ble_eq_true rfl) (xriQ hx hb hr hlocks dL_broken_10 I hS (Or.inl ⟨_, _, hG, Or.inl ⟨rfl, rfl⟩, rfl, rfl⟩))
    · skip
      refine vx_catch (name := "java/lang/IllegalStateException") hown [⟨0, 5, 8, 19⟩] ⟨0, 5, 11, 13⟩ [] hT (fun z hz => by
          rcases List.mem_singleton.mp hz with rfl
          exact Or.inr ⟨(by decide), "java/lang/IndexOutOfBoundsException", hts _ (List.mem_of_getElem? (i := 1) rfl), hX.2 _ (by decide) _ (by decide) (by decide)⟩) (by decide +kernel) (by decide) (hts _ (List.mem_of_getElem? (i := 2) rfl)) (va_Nw.use rfl (hX.1 _ (by decide))) hc1 hc2 hc3 ?_
      refine lv_astore_n (lv' := [(2, .ref q9), (0, .ref (ad 0 0)), (1, .int a1)]) hx hb dL_broken_11 rfl hl (by decide) rfl (fun ls hl => ?_)
      refine lv_iconst (v := (nI 2)) hx hb dL_broken_12 (by decide) ?_
      exact W.widen (Nat.le_of_ble_eq_true rfl) (Nat.le_of_ble_eq_true rfl) (xriQ hx hb hr hlocks dL_broken_13 I hS (Or.inl ⟨_, _, hG, Or.inr ⟨rfl, rfl⟩, rfl, rfl⟩))

set_option maxHeartbeats 4000000 in
set_option maxRecDepth 100000 in
theorem mL_ofClaim (l : Launch) (lo : Nat) (D : va_G) (E : Nat → ClassId) (h : XW) (hlst : l.stackTraces = false) (Pr : Nat → Prop) (τ : CT) (ad : Nat → Nat → Nat) (fa : Nat → Nat → Option Nat) (hR : RC E Pr τ ad fa h) (hW : CW τ) (ou : Nat) (fo : Nat → Int64) (hou : Pr ou) (ho : h ou = some (.inl (E 1, 1, .inr (.inl fo)))) (a1 : Int32) (a2 : Int32) (hE : ∀ En, (wL τ (fX7_ofClaim τ a1 a2)) = .inl En → En = "java/lang/IndexOutOfBoundsException" ∨ En = "java/lang/IllegalArgumentException") : Met l yL_ofClaim wsL_ofClaim ({ frames := 8, cells := 2, slots := 12, locals := 151 } : Room) (xPC lo D E h [.ref (ad 0 0), .int a1, .int a2, .ref ou]) (xQ lo D (wQ E Pr h (ad 0 0) ou fo (wL τ (fX7_ofClaim τ a1 a2)) ["java/lang/IndexOutOfBoundsException", "java/lang/IllegalArgumentException"])) 2 12 (xA lo) := by
  refine xofWH (cc := cL_ofClaim) (maxL := 5) (ret := (some .int)) (hh := [(0, 9, 12, 19), (0, 9, 16, 21)]) (by decide) rfl ?_
  intro p e s m args below meth c s₁ B hml hv
  obtain ⟨rfl, I, hX⟩ := hv
  have hx := B.exec
  have hb := B.bytes
  have hr := B.returns
  have hts := atoms_spec (ws := wsL_ofClaim) B.pre
  have hown : s.vm.findClass RL = some m.cls := findClass_of_methodNamed B.named
  have hlocks := B.notSynchronized
  have hl := lv_entry ([.ref (ad 0 0), .int a1, .int a2, .ref ou] : List Value) (n := 5) (Nat.le_of_ble_eq_true rfl)
  rw [lg_entry_eq]
  generalize (lg_sl ([.ref (ad 0 0), .int a1, .int a2, .ref ou] : List Value) ++ List.replicate (5 - (lg_sl ([.ref (ad 0 0), .int a1, .int a2, .ref ou] : List Value)).length) Slot.unset).toArray = ls at hl ⊢
  have hl : lv_has ls 5 [(0, .ref (ad 0 0)), (1, .int a1), (2, .int a2), (3, .ref ou)] := hl
  have hS : va_S (xA lo) s.heap s.heap [] := va_S.rf
  refine lv_aload_n hx hb dL_ofClaim_0 rfl (lv_at hl 3 rfl) ?_
  refine lv_iconst (v := (nI 0)) hx hb dL_ofClaim_1 (by decide) ?_
  refine lv_aload_n hx hb dL_ofClaim_2 rfl (lv_at hl 0 rfl) ?_
  refine lv_iload_n hx hb dL_ofClaim_3 rfl (lv_at hl 1 rfl) ?_
  refine lv_iload_n hx hb dL_ofClaim_4 rfl (lv_at hl 2 rfl) ?_
  refine xcvC (As := [.int a1, .int a2]) (rest := [.int (nI 0), .ref ou]) ⟨hx, hb, hml, hown, hts⟩ (mX7_ofClaim l lo D E h hlst Pr τ ad fa hR hW a1 a2) (cwV 2 hts gL_ofClaim_X7_ofClaim rfl rfl rfl (by decide +kernel) ⟨Nat.le_of_ble_eq_true rfl, Nat.le_of_ble_eq_true rfl⟩) I hS hR.f0 rfl rfl hl.1 rfl (Nat.le_of_ble_eq_true rfl) dL_ofClaim_5 ⟨Nat.le_of_ble_eq_true rfl, Nat.le_of_ble_eq_true rfl⟩ (fun v9 hw H locs q9 I hS => ?_) (fun q9 En ce H locs hEn I hS hc1 hc2 hc3 => ?_)
  · skip
    obtain ⟨x9, e9, q1, q2⟩ := q9
    subst q1
    rw [q2] at I
    have hF2 : cF Pr h h := cF.rf
    have hR2 := hR
    have hW2 := hW
    refine W.eq (g2 := F0 m 8 ls [.long x9, .int (nI 0), .ref ou]) rfl ?_
    have ho2 : h ou = some (.inl (E 1, 1, .inr (.inl fo))) := (hF2 ou hou).trans ho
    refine xlast (i := 0) (n := 1) hx hb I hS ho2 (by decide) (by decide) dL_ofClaim_8 (fun H locs I hS => ?_)
    have hR3 := hR2.out (e := .inl (E 1, 1, .inr (.inl (vp_updL fo 0 x9)))) hou
    refine lv_goto (tgt := 20) hx hb dL_ofClaim_9 (by decide) ?_
    refine lv_iconst (v := (nI 0)) hx hb dL_ofClaim_20 (by decide) ?_
    exact W.widen (Nat.le_of_ble_eq_true rfl) (Nat.le_of_ble_eq_true rfl) (xriQ hx hb hr hlocks dL_ofClaim_21 I hS (Or.inr ⟨some x9, τ, (by rw [e9]; simp only [wL]), rfl, hW2, fun q hq hn => (hset_n hn).trans (hF2 q hq), ⟨ad, fa, hR3, rfl⟩, hset_s⟩))
  · skip
    have hG : (wL τ (fX7_ofClaim τ a1 a2)) = .inl En := by rw [show (fX7_ofClaim τ a1 a2) = .inl En from hEn]; rfl
    have hT := vx_table (x := yL_ofClaim) B (hts _ (List.mem_of_getElem? (i := 0) rfl))
    rcases hE En hG with rfl | rfl
    · skip
      refine vx_catch (name := "java/lang/IndexOutOfBoundsException") hown [] ⟨0, 9, 12, 19⟩ [⟨0, 9, 16, 21⟩] hT (fun z hz => by simp at hz) (by decide +kernel) (by decide) (hts _ (List.mem_of_getElem? (i := 1) rfl)) (va_Nw.use rfl (hX.1 _ (by decide))) hc1 hc2 hc3 ?_
      refine lv_astore (lv' := [(4, .ref q9), (0, .ref (ad 0 0)), (1, .int a1), (2, .int a2), (3, .ref ou)]) hx hb dL_ofClaim_12 hl (by decide) rfl (fun ls hl => ?_)
      refine lv_iconst (v := (nI 1)) hx hb dL_ofClaim_14 (by decide) ?_
      exact W.widen (Nat.le_of_ble_eq_true rfl) (Nat.le_of_ble_eq_true rfl) (xriQ hx hb hr hlocks dL_ofClaim_15 I hS (Or.inl ⟨_, _, hG, Or.inl ⟨rfl, rfl⟩, rfl, rfl⟩))
    · skip
      refine vx_catch (name := "java/lang/IllegalArgumentException") hown [⟨0, 9, 12, 19⟩] ⟨0, 9, 16, 21⟩ [] hT (fun z hz => by
          rcases List.mem_singleton.mp hz with rfl
          exact Or.inr ⟨(by decide), "java/lang/IndexOutOfBoundsException", hts _ (List.mem_of_getElem? (i := 1) rfl), hX.2 _ (by decide) _ (by decide) (by decide)⟩) (by decide +kernel) (by decide) (hts _ (List.mem_of_getElem? (i := 2) rfl)) (va_Nw.use rfl (hX.1 _ (by decide))) hc1 hc2 hc3 ?_
      refine lv_astore (lv' := [(4, .ref q9), (0, .ref (ad 0 0)), (1, .int a1), (2, .int a2), (3, .ref ou)]) hx hb dL_ofClaim_16 hl (by decide) rfl (fun ls hl => ?_)
      refine lv_iconst (v := (nI 2)) hx hb dL_ofClaim_18 (by decide) ?_
      exact W.widen (Nat.le_of_ble_eq_true rfl) (Nat.le_of_ble_eq_true rfl) (xriQ hx hb hr hlocks dL_ofClaim_19 I hS (Or.inl ⟨_, _, hG, Or.inr ⟨rfl, rfl⟩, rfl, rfl⟩))

set_option maxHeartbeats 4000000 in
set_option maxRecDepth 100000 in
theorem mL_ofEvent (l : Launch) (lo : Nat) (D : va_G) (E : Nat → ClassId) (h : XW) (hlst : l.stackTraces = false) (Pr : Nat → Prop) (τ : CT) (ad : Nat → Nat → Nat) (fa : Nat → Nat → Option Nat) (hR : RC E Pr τ ad fa h) (hW : CW τ) (ou : Nat) (fo : Nat → Int64) (hou : Pr ou) (ho : h ou = some (.inl (E 1, 1, .inr (.inl fo)))) (a1 : Int32) (a2 : Int32) (hE : ∀ En, (wL τ (fX7_ofEvent τ a1 a2)) = .inl En → En = "java/lang/IndexOutOfBoundsException" ∨ En = "java/lang/IllegalArgumentException") : Met l yL_ofEvent wsL_ofEvent ({ frames := 8, cells := 2, slots := 12, locals := 156 } : Room) (xPC lo D E h [.ref (ad 0 0), .int a1, .int a2, .ref ou]) (xQ lo D (wQ E Pr h (ad 0 0) ou fo (wL τ (fX7_ofEvent τ a1 a2)) ["java/lang/IndexOutOfBoundsException", "java/lang/IllegalArgumentException"])) 2 12 (xA lo) := by
  refine xofWH (cc := cL_ofEvent) (maxL := 5) (ret := (some .int)) (hh := [(0, 9, 12, 19), (0, 9, 16, 21)]) (by decide) rfl ?_
  intro p e s m args below meth c s₁ B hml hv
  obtain ⟨rfl, I, hX⟩ := hv
  have hx := B.exec
  have hb := B.bytes
  have hr := B.returns
  have hts := atoms_spec (ws := wsL_ofEvent) B.pre
  have hown : s.vm.findClass RL = some m.cls := findClass_of_methodNamed B.named
  have hlocks := B.notSynchronized
  have hl := lv_entry ([.ref (ad 0 0), .int a1, .int a2, .ref ou] : List Value) (n := 5) (Nat.le_of_ble_eq_true rfl)
  rw [lg_entry_eq]
  generalize (lg_sl ([.ref (ad 0 0), .int a1, .int a2, .ref ou] : List Value) ++ List.replicate (5 - (lg_sl ([.ref (ad 0 0), .int a1, .int a2, .ref ou] : List Value)).length) Slot.unset).toArray = ls at hl ⊢
  have hl : lv_has ls 5 [(0, .ref (ad 0 0)), (1, .int a1), (2, .int a2), (3, .ref ou)] := hl
  have hS : va_S (xA lo) s.heap s.heap [] := va_S.rf
  refine lv_aload_n hx hb dL_ofEvent_0 rfl (lv_at hl 3 rfl) ?_
  refine lv_iconst (v := (nI 0)) hx hb dL_ofEvent_1 (by decide) ?_
  refine lv_aload_n hx hb dL_ofEvent_2 rfl (lv_at hl 0 rfl) ?_
  refine lv_iload_n hx hb dL_ofEvent_3 rfl (lv_at hl 1 rfl) ?_
  refine lv_iload_n hx hb dL_ofEvent_4 rfl (lv_at hl 2 rfl) ?_
  refine xcvC (As := [.int a1, .int a2]) (rest := [.int (nI 0), .ref ou]) ⟨hx, hb, hml, hown, hts⟩ (mX7_ofEvent l lo D E h hlst Pr τ ad fa hR hW a1 a2) (cwV 2 hts gL_ofEvent_X7_ofEvent rfl rfl rfl (by decide +kernel) ⟨Nat.le_of_ble_eq_true rfl, Nat.le_of_ble_eq_true rfl⟩) I hS hR.f0 rfl rfl hl.1 rfl (Nat.le_of_ble_eq_true rfl) dL_ofEvent_5 ⟨Nat.le_of_ble_eq_true rfl, Nat.le_of_ble_eq_true rfl⟩ (fun v9 hw H locs q9 I hS => ?_) (fun q9 En ce H locs hEn I hS hc1 hc2 hc3 => ?_)
  · skip
    obtain ⟨x9, e9, q1, q2⟩ := q9
    subst q1
    rw [q2] at I
    have hF2 : cF Pr h h := cF.rf
    have hR2 := hR
    have hW2 := hW
    refine W.eq (g2 := F0 m 8 ls [.long x9, .int (nI 0), .ref ou]) rfl ?_
    have ho2 : h ou = some (.inl (E 1, 1, .inr (.inl fo))) := (hF2 ou hou).trans ho
    refine xlast (i := 0) (n := 1) hx hb I hS ho2 (by decide) (by decide) dL_ofEvent_8 (fun H locs I hS => ?_)
    have hR3 := hR2.out (e := .inl (E 1, 1, .inr (.inl (vp_updL fo 0 x9)))) hou
    refine lv_goto (tgt := 20) hx hb dL_ofEvent_9 (by decide) ?_
    refine lv_iconst (v := (nI 0)) hx hb dL_ofEvent_20 (by decide) ?_
    exact W.widen (Nat.le_of_ble_eq_true rfl) (Nat.le_of_ble_eq_true rfl) (xriQ hx hb hr hlocks dL_ofEvent_21 I hS (Or.inr ⟨some x9, τ, (by rw [e9]; simp only [wL]), rfl, hW2, fun q hq hn => (hset_n hn).trans (hF2 q hq), ⟨ad, fa, hR3, rfl⟩, hset_s⟩))
  · skip
    have hG : (wL τ (fX7_ofEvent τ a1 a2)) = .inl En := by rw [show (fX7_ofEvent τ a1 a2) = .inl En from hEn]; rfl
    have hT := vx_table (x := yL_ofEvent) B (hts _ (List.mem_of_getElem? (i := 0) rfl))
    rcases hE En hG with rfl | rfl
    · skip
      refine vx_catch (name := "java/lang/IndexOutOfBoundsException") hown [] ⟨0, 9, 12, 19⟩ [⟨0, 9, 16, 21⟩] hT (fun z hz => by simp at hz) (by decide +kernel) (by decide) (hts _ (List.mem_of_getElem? (i := 1) rfl)) (va_Nw.use rfl (hX.1 _ (by decide))) hc1 hc2 hc3 ?_
      refine lv_astore (lv' := [(4, .ref q9), (0, .ref (ad 0 0)), (1, .int a1), (2, .int a2), (3, .ref ou)]) hx hb dL_ofEvent_12 hl (by decide) rfl (fun ls hl => ?_)
      refine lv_iconst (v := (nI 1)) hx hb dL_ofEvent_14 (by decide) ?_
      exact W.widen (Nat.le_of_ble_eq_true rfl) (Nat.le_of_ble_eq_true rfl) (xriQ hx hb hr hlocks dL_ofEvent_15 I hS (Or.inl ⟨_, _, hG, Or.inl ⟨rfl, rfl⟩, rfl, rfl⟩))
    · skip
      refine vx_catch (name := "java/lang/IllegalArgumentException") hown [⟨0, 9, 12, 19⟩] ⟨0, 9, 16, 21⟩ [] hT (fun z hz => by
          rcases List.mem_singleton.mp hz with rfl
          exact Or.inr ⟨(by decide), "java/lang/IndexOutOfBoundsException", hts _ (List.mem_of_getElem? (i := 1) rfl), hX.2 _ (by decide) _ (by decide) (by decide)⟩) (by decide +kernel) (by decide) (hts _ (List.mem_of_getElem? (i := 2) rfl)) (va_Nw.use rfl (hX.1 _ (by decide))) hc1 hc2 hc3 ?_
      refine lv_astore (lv' := [(4, .ref q9), (0, .ref (ad 0 0)), (1, .int a1), (2, .int a2), (3, .ref ou)]) hx hb dL_ofEvent_16 hl (by decide) rfl (fun ls hl => ?_)
      refine lv_iconst (v := (nI 2)) hx hb dL_ofEvent_18 (by decide) ?_
      exact W.widen (Nat.le_of_ble_eq_true rfl) (Nat.le_of_ble_eq_true rfl) (xriQ hx hb hr hlocks dL_ofEvent_19 I hS (Or.inl ⟨_, _, hG, Or.inr ⟨rfl, rfl⟩, rfl, rfl⟩))

set_option maxHeartbeats 4000000 in
set_option maxRecDepth 100000 in
theorem mL_cost (l : Launch) (lo : Nat) (D : va_G) (E : Nat → ClassId) (h : XW) (hlst : l.stackTraces = false) (Pr : Nat → Prop) (τ : CT) (ad : Nat → Nat → Nat) (fa : Nat → Nat → Option Nat) (hR : RC E Pr τ ad fa h) (hW : CW τ) (ou : Nat) (fo : Nat → Int64) (hou : Pr ou) (ho : h ou = some (.inl (E 1, 1, .inr (.inl fo)))) (a1 : Int32) (hE : ∀ En, (wL τ (fX7_cost τ a1)) = .inl En → En = "java/lang/IllegalArgumentException") : Met l yL_cost wsL_cost ({ frames := 9, cells := 1, slots := 6, locals := 178 } : Room) (xPC lo D E h [.ref (ad 0 0), .int a1, .ref ou]) (xQ lo D (wQ E Pr h (ad 0 0) ou fo (wL τ (fX7_cost τ a1)) ["java/lang/IllegalArgumentException"])) 1 6 (xA lo) := by
  refine xofWH (cc := cL_cost) (maxL := 4) (ret := (some .int)) (hh := [(0, 8, 11, 21)]) (by decide) rfl ?_
  intro p e s m args below meth c s₁ B hml hv
  obtain ⟨rfl, I, hX⟩ := hv
  have hx := B.exec
  have hb := B.bytes
  have hr := B.returns
  have hts := atoms_spec (ws := wsL_cost) B.pre
  have hown : s.vm.findClass RL = some m.cls := findClass_of_methodNamed B.named
  have hlocks := B.notSynchronized
  have hl := lv_entry ([.ref (ad 0 0), .int a1, .ref ou] : List Value) (n := 4) (Nat.le_of_ble_eq_true rfl)
  rw [lg_entry_eq]
  generalize (lg_sl ([.ref (ad 0 0), .int a1, .ref ou] : List Value) ++ List.replicate (4 - (lg_sl ([.ref (ad 0 0), .int a1, .ref ou] : List Value)).length) Slot.unset).toArray = ls at hl ⊢
  have hl : lv_has ls 4 [(0, .ref (ad 0 0)), (1, .int a1), (2, .ref ou)] := hl
  have hS : va_S (xA lo) s.heap s.heap [] := va_S.rf
  refine lv_aload_n hx hb dL_cost_0 rfl (lv_at hl 2 rfl) ?_
  refine lv_iconst (v := (nI 0)) hx hb dL_cost_1 (by decide) ?_
  refine lv_aload_n hx hb dL_cost_2 rfl (lv_at hl 0 rfl) ?_
  refine lv_iload_n hx hb dL_cost_3 rfl (lv_at hl 1 rfl) ?_
  refine xcvC (As := [.int a1]) (rest := [.int (nI 0), .ref ou]) ⟨hx, hb, hml, hown, hts⟩ (mX7_cost l lo D E h hlst Pr τ ad fa hR hW a1) (cwV 1 hts gL_cost_X7_cost rfl rfl rfl (by decide +kernel) ⟨Nat.le_of_ble_eq_true rfl, Nat.le_of_ble_eq_true rfl⟩) I hS hR.f0 rfl rfl hl.1 rfl (Nat.le_of_ble_eq_true rfl) dL_cost_4 ⟨Nat.le_of_ble_eq_true rfl, Nat.le_of_ble_eq_true rfl⟩ (fun v9 hw H locs q9 I hS => ?_) (fun q9 En ce H locs hEn I hS hc1 hc2 hc3 => ?_)
  · skip
    obtain ⟨x9, e9, q1, q2⟩ := q9
    subst q1
    rw [q2] at I
    have hF2 : cF Pr h h := cF.rf
    have hR2 := hR
    have hW2 := hW
    refine W.eq (g2 := F0 m 7 ls [.long x9, .int (nI 0), .ref ou]) rfl ?_
    have ho2 : h ou = some (.inl (E 1, 1, .inr (.inl fo))) := (hF2 ou hou).trans ho
    refine xlast (i := 0) (n := 1) hx hb I hS ho2 (by decide) (by decide) dL_cost_7 (fun H locs I hS => ?_)
    have hR3 := hR2.out (e := .inl (E 1, 1, .inr (.inl (vp_updL fo 0 x9)))) hou
    refine lv_goto (tgt := 14) hx hb dL_cost_8 (by decide) ?_
    refine lv_iconst (v := (nI 0)) hx hb dL_cost_14 (by decide) ?_
    exact W.widen (Nat.le_of_ble_eq_true rfl) (Nat.le_of_ble_eq_true rfl) (xriQ hx hb hr hlocks dL_cost_15 I hS (Or.inr ⟨some x9, τ, (by rw [e9]; simp only [wL]), rfl, hW2, fun q hq hn => (hset_n hn).trans (hF2 q hq), ⟨ad, fa, hR3, rfl⟩, hset_s⟩))
  · skip
    have hG : (wL τ (fX7_cost τ a1)) = .inl En := by rw [show (fX7_cost τ a1) = .inl En from hEn]; rfl
    have hT := vx_table (x := yL_cost) B (hts _ (List.mem_of_getElem? (i := 0) rfl))
    rcases hE En hG with rfl
    · skip
      refine vx_catch (name := "java/lang/IllegalArgumentException") hown [] ⟨0, 8, 11, 21⟩ [] hT (fun z hz => by simp at hz) (by decide +kernel) (by decide) (hts _ (List.mem_of_getElem? (i := 1) rfl)) (va_Nw.use rfl (hX.1 _ (by decide))) hc1 hc2 hc3 ?_
      refine lv_astore_n (lv' := [(3, .ref q9), (0, .ref (ad 0 0)), (1, .int a1), (2, .ref ou)]) hx hb dL_cost_11 rfl hl (by decide) rfl (fun ls hl => ?_)
      refine lv_iconst (v := (nI 1)) hx hb dL_cost_12 (by decide) ?_
      exact W.widen (Nat.le_of_ble_eq_true rfl) (Nat.le_of_ble_eq_true rfl) (xriQ hx hb hr hlocks dL_cost_13 I hS (Or.inl ⟨_, _, hG, ⟨rfl, rfl⟩, rfl, rfl⟩))

set_option maxHeartbeats 4000000 in
set_option maxRecDepth 100000 in
theorem mL_advance (l : Launch) (lo : Nat) (D : va_G) (E : Nat → ClassId) (h : XW) (hlst : l.stackTraces = false) (Pr : Nat → Prop) (τ : CT) (ad : Nat → Nat → Nat) (fa : Nat → Nat → Option Nat) (hR : RC E Pr τ ad fa h) (hW : CW τ) (ou : Nat) (fo : Nat → Int64) (hou : Pr ou) (ho : h ou = some (.inl (E 1, 1, .inr (.inl fo)))) (a1 : Int32) (a2 : Int32) (hE : ∀ En, (wIs (fX7_advance τ a1 a2)) = .inl En → En = "java/lang/IllegalArgumentException" ∨ En = "java/lang/IllegalStateException") : Met l yL_advance wsL_advance ({ frames := 9, cells := 4, slots := 24, locals := 171 } : Room) (xPC lo D E h [.ref (ad 0 0), .int a1, .int a2, .ref ou]) (xQ lo D (wQ E Pr h (ad 0 0) ou fo (wIs (fX7_advance τ a1 a2)) ["java/lang/IllegalArgumentException", "java/lang/IllegalStateException"])) 4 24 (xA lo) := by
  refine xofWH (cc := cL_advance) (maxL := 5) (ret := (some .int)) (hh := [(0, 10, 13, 21), (0, 10, 17, 13)]) (by decide) rfl ?_
  intro p e s m args below meth c s₁ B hml hv
  obtain ⟨rfl, I, hX⟩ := hv
  have hx := B.exec
  have hb := B.bytes
  have hr := B.returns
  have hts := atoms_spec (ws := wsL_advance) B.pre
  have hown : s.vm.findClass RL = some m.cls := findClass_of_methodNamed B.named
  have hlocks := B.notSynchronized
  have hl := lv_entry ([.ref (ad 0 0), .int a1, .int a2, .ref ou] : List Value) (n := 5) (Nat.le_of_ble_eq_true rfl)
  rw [lg_entry_eq]
  generalize (lg_sl ([.ref (ad 0 0), .int a1, .int a2, .ref ou] : List Value) ++ List.replicate (5 - (lg_sl ([.ref (ad 0 0), .int a1, .int a2, .ref ou] : List Value)).length) Slot.unset).toArray = ls at hl ⊢
  have hl : lv_has ls 5 [(0, .ref (ad 0 0)), (1, .int a1), (2, .int a2), (3, .ref ou)] := hl
  have hS : va_S (xA lo) s.heap s.heap [] := va_S.rf
  refine lv_aload_n hx hb dL_advance_0 rfl (lv_at hl 3 rfl) ?_
  refine lv_iconst (v := (nI 0)) hx hb dL_advance_1 (by decide) ?_
  refine lv_aload_n hx hb dL_advance_2 rfl (lv_at hl 0 rfl) ?_
  refine lv_iload_n hx hb dL_advance_3 rfl (lv_at hl 1 rfl) ?_
  refine lv_iload_n hx hb dL_advance_4 rfl (lv_at hl 2 rfl) ?_
  refine xcvC (As := [.int a1, .int a2]) (rest := [.int (nI 0), .ref ou]) ⟨hx, hb, hml, hown, hts⟩ (mX7_advance l lo D E h hlst Pr τ ad fa hR hW a1 a2) (cwV 2 hts gL_advance_X7_advance rfl rfl rfl (by decide +kernel) ⟨Nat.le_of_ble_eq_true rfl, Nat.le_of_ble_eq_true rfl⟩) I hS hR.f0 rfl rfl hl.1 rfl (Nat.le_of_ble_eq_true rfl) dL_advance_5 ⟨Nat.le_of_ble_eq_true rfl, Nat.le_of_ble_eq_true rfl⟩ (fun v9 hw H locs q9 I hS => ?_) (fun q9 En ce H locs hEn I hS hc1 hc2 hc3 => ?_)
  · skip
    obtain ⟨x9, e9, q1, hR2, hF2, hW2⟩ := q9
    subst q1
    refine W.eq (g2 := F0 m 8 ls [.int x9.1, .int (nI 0), .ref ou]) rfl ?_
    refine lv_i2l (v := x9.1.toInt64) hx hb dL_advance_8 rfl ?_
    have ho2 : hw ou = some (.inl (E 1, 1, .inr (.inl fo))) := (hF2 ou hou).trans ho
    refine xlast (i := 0) (n := 1) hx hb I hS ho2 (by decide) (by decide) dL_advance_9 (fun H locs I hS => ?_)
    have hR3 := hR2.out (e := .inl (E 1, 1, .inr (.inl (vp_updL fo 0 x9.1.toInt64)))) hou
    refine lv_goto (tgt := 21) hx hb dL_advance_10 (by decide) ?_
    refine lv_iconst (v := (nI 0)) hx hb dL_advance_21 (by decide) ?_
    exact W.widen (Nat.le_of_ble_eq_true rfl) (Nat.le_of_ble_eq_true rfl) (xriQ hx hb hr hlocks dL_advance_22 I hS (Or.inr ⟨some x9.1.toInt64, x9.2, (by rw [e9]; simp only [wIs]), rfl, hW2, fun q hq hn => (hset_n hn).trans (hF2 q hq), ⟨ad, fa, hR3, rfl⟩, hset_s⟩))
  · skip
    have hG : (wIs (fX7_advance τ a1 a2)) = .inl En := by rw [show (fX7_advance τ a1 a2) = .inl En from hEn]; rfl
    have hT := vx_table (x := yL_advance) B (hts _ (List.mem_of_getElem? (i := 0) rfl))
    rcases hE En hG with rfl | rfl
    · skip
      refine vx_catch (name := "java/lang/IllegalArgumentException") hown [] ⟨0, 10, 13, 21⟩ [⟨0, 10, 17, 13⟩] hT (fun z hz => by simp at hz) (by decide +kernel) (by decide) (hts _ (List.mem_of_getElem? (i := 1) rfl)) (va_Nw.use rfl (hX.1 _ (by decide))) hc1 hc2 hc3 ?_
      refine lv_astore (lv' := [(4, .ref q9), (0, .ref (ad 0 0)), (1, .int a1), (2, .int a2), (3, .ref ou)]) hx hb dL_advance_13 hl (by decide) rfl (fun ls hl => ?_)
      refine lv_iconst (v := (nI 1)) hx hb dL_advance_15 (by decide) ?_
      exact W.widen (Nat.le_of_ble_eq_true rfl) (Nat.le_of_ble_eq_true rfl) (xriQ hx hb hr hlocks dL_advance_16 I hS (Or.inl ⟨_, _, hG, Or.inl ⟨rfl, rfl⟩, rfl, rfl⟩))
    · skip
      refine vx_catch (name := "java/lang/IllegalStateException") hown [⟨0, 10, 13, 21⟩] ⟨0, 10, 17, 13⟩ [] hT (fun z hz => by
          rcases List.mem_singleton.mp hz with rfl
          exact Or.inr ⟨(by decide), "java/lang/IllegalArgumentException", hts _ (List.mem_of_getElem? (i := 1) rfl), hX.2 _ (by decide) _ (by decide) (by decide)⟩) (by decide +kernel) (by decide) (hts _ (List.mem_of_getElem? (i := 2) rfl)) (va_Nw.use rfl (hX.1 _ (by decide))) hc1 hc2 hc3 ?_
      refine lv_astore (lv' := [(4, .ref q9), (0, .ref (ad 0 0)), (1, .int a1), (2, .int a2), (3, .ref ou)]) hx hb dL_advance_17 hl (by decide) rfl (fun ls hl => ?_)
      refine lv_iconst (v := (nI 2)) hx hb dL_advance_19 (by decide) ?_
      exact W.widen (Nat.le_of_ble_eq_true rfl) (Nat.le_of_ble_eq_true rfl) (xriQ hx hb hr hlocks dL_advance_20 I hS (Or.inl ⟨_, _, hG, Or.inr ⟨rfl, rfl⟩, rfl, rfl⟩))

set_option maxHeartbeats 4000000 in
set_option maxRecDepth 100000 in
theorem mL_further (l : Launch) (lo : Nat) (D : va_G) (E : Nat → ClassId) (h : XW) (hlst : l.stackTraces = false) (Pr : Nat → Prop) (τ : CT) (ad : Nat → Nat → Nat) (fa : Nat → Nat → Option Nat) (hR : RC E Pr τ ad fa h) (hW : CW τ) (ou : Nat) (fo : Nat → Int64) (hou : Pr ou) (ho : h ou = some (.inl (E 1, 1, .inr (.inl fo)))) (a1 : Int32) (a2 : Int32) (hE : ∀ En, (wIs (fX7_further τ a1 a2)) = .inl En → En = "java/lang/IllegalArgumentException" ∨ En = "java/lang/IllegalStateException") : Met l yL_further wsL_further ({ frames := 9, cells := 4, slots := 24, locals := 171 } : Room) (xPC lo D E h [.ref (ad 0 0), .int a1, .int a2, .ref ou]) (xQ lo D (wQ E Pr h (ad 0 0) ou fo (wIs (fX7_further τ a1 a2)) ["java/lang/IllegalArgumentException", "java/lang/IllegalStateException"])) 4 24 (xA lo) := by
  refine xofWH (cc := cL_further) (maxL := 5) (ret := (some .int)) (hh := [(0, 10, 13, 21), (0, 10, 17, 13)]) (by decide) rfl ?_
  intro p e s m args below meth c s₁ B hml hv
  obtain ⟨rfl, I, hX⟩ := hv
  have hx := B.exec
  have hb := B.bytes
  have hr := B.returns
  have hts := atoms_spec (ws := wsL_further) B.pre
  have hown : s.vm.findClass RL = some m.cls := findClass_of_methodNamed B.named
  have hlocks := B.notSynchronized
  have hl := lv_entry ([.ref (ad 0 0), .int a1, .int a2, .ref ou] : List Value) (n := 5) (Nat.le_of_ble_eq_true rfl)
  rw [lg_entry_eq]
  generalize (lg_sl ([.ref (ad 0 0), .int a1, .int a2, .ref ou] : List Value) ++ List.replicate (5 - (lg_sl ([.ref (ad 0 0), .int a1, .int a2, .ref ou] : List Value)).length) Slot.unset).toArray = ls at hl ⊢
  have hl : lv_has ls 5 [(0, .ref (ad 0 0)), (1, .int a1), (2, .int a2), (3, .ref ou)] := hl
  have hS : va_S (xA lo) s.heap s.heap [] := va_S.rf
  refine lv_aload_n hx hb dL_further_0 rfl (lv_at hl 3 rfl) ?_
  refine lv_iconst (v := (nI 0)) hx hb dL_further_1 (by decide) ?_
  refine lv_aload_n hx hb dL_further_2 rfl (lv_at hl 0 rfl) ?_
  refine lv_iload_n hx hb dL_further_3 rfl (lv_at hl 1 rfl) ?_
  refine lv_iload_n hx hb dL_further_4 rfl (lv_at hl 2 rfl) ?_
  refine xcvC (As := [.int a1, .int a2]) (rest := [.int (nI 0), .ref ou]) ⟨hx, hb, hml, hown, hts⟩ (mX7_further l lo D E h hlst Pr τ ad fa hR hW a1 a2) (cwV 2 hts gL_further_X7_further rfl rfl rfl (by decide +kernel) ⟨Nat.le_of_ble_eq_true rfl, Nat.le_of_ble_eq_true rfl⟩) I hS hR.f0 rfl rfl hl.1 rfl (Nat.le_of_ble_eq_true rfl) dL_further_5 ⟨Nat.le_of_ble_eq_true rfl, Nat.le_of_ble_eq_true rfl⟩ (fun v9 hw H locs q9 I hS => ?_) (fun q9 En ce H locs hEn I hS hc1 hc2 hc3 => ?_)
  · skip
    obtain ⟨x9, e9, q1, hR2, hF2, hW2⟩ := q9
    subst q1
    refine W.eq (g2 := F0 m 8 ls [.int x9.1, .int (nI 0), .ref ou]) rfl ?_
    refine lv_i2l (v := x9.1.toInt64) hx hb dL_further_8 rfl ?_
    have ho2 : hw ou = some (.inl (E 1, 1, .inr (.inl fo))) := (hF2 ou hou).trans ho
    refine xlast (i := 0) (n := 1) hx hb I hS ho2 (by decide) (by decide) dL_further_9 (fun H locs I hS => ?_)
    have hR3 := hR2.out (e := .inl (E 1, 1, .inr (.inl (vp_updL fo 0 x9.1.toInt64)))) hou
    refine lv_goto (tgt := 21) hx hb dL_further_10 (by decide) ?_
    refine lv_iconst (v := (nI 0)) hx hb dL_further_21 (by decide) ?_
    exact W.widen (Nat.le_of_ble_eq_true rfl) (Nat.le_of_ble_eq_true rfl) (xriQ hx hb hr hlocks dL_further_22 I hS (Or.inr ⟨some x9.1.toInt64, x9.2, (by rw [e9]; simp only [wIs]), rfl, hW2, fun q hq hn => (hset_n hn).trans (hF2 q hq), ⟨ad, fa, hR3, rfl⟩, hset_s⟩))
  · skip
    have hG : (wIs (fX7_further τ a1 a2)) = .inl En := by rw [show (fX7_further τ a1 a2) = .inl En from hEn]; rfl
    have hT := vx_table (x := yL_further) B (hts _ (List.mem_of_getElem? (i := 0) rfl))
    rcases hE En hG with rfl | rfl
    · skip
      refine vx_catch (name := "java/lang/IllegalArgumentException") hown [] ⟨0, 10, 13, 21⟩ [⟨0, 10, 17, 13⟩] hT (fun z hz => by simp at hz) (by decide +kernel) (by decide) (hts _ (List.mem_of_getElem? (i := 1) rfl)) (va_Nw.use rfl (hX.1 _ (by decide))) hc1 hc2 hc3 ?_
      refine lv_astore (lv' := [(4, .ref q9), (0, .ref (ad 0 0)), (1, .int a1), (2, .int a2), (3, .ref ou)]) hx hb dL_further_13 hl (by decide) rfl (fun ls hl => ?_)
      refine lv_iconst (v := (nI 1)) hx hb dL_further_15 (by decide) ?_
      exact W.widen (Nat.le_of_ble_eq_true rfl) (Nat.le_of_ble_eq_true rfl) (xriQ hx hb hr hlocks dL_further_16 I hS (Or.inl ⟨_, _, hG, Or.inl ⟨rfl, rfl⟩, rfl, rfl⟩))
    · skip
      refine vx_catch (name := "java/lang/IllegalStateException") hown [⟨0, 10, 13, 21⟩] ⟨0, 10, 17, 13⟩ [] hT (fun z hz => by
          rcases List.mem_singleton.mp hz with rfl
          exact Or.inr ⟨(by decide), "java/lang/IllegalArgumentException", hts _ (List.mem_of_getElem? (i := 1) rfl), hX.2 _ (by decide) _ (by decide) (by decide)⟩) (by decide +kernel) (by decide) (hts _ (List.mem_of_getElem? (i := 2) rfl)) (va_Nw.use rfl (hX.1 _ (by decide))) hc1 hc2 hc3 ?_
      refine lv_astore (lv' := [(4, .ref q9), (0, .ref (ad 0 0)), (1, .int a1), (2, .int a2), (3, .ref ou)]) hx hb dL_further_17 hl (by decide) rfl (fun ls hl => ?_)
      refine lv_iconst (v := (nI 2)) hx hb dL_further_19 (by decide) ?_
      exact W.widen (Nat.le_of_ble_eq_true rfl) (Nat.le_of_ble_eq_true rfl) (xriQ hx hb hr hlocks dL_further_20 I hS (Or.inl ⟨_, _, hG, Or.inr ⟨rfl, rfl⟩, rfl, rfl⟩))

set_option maxHeartbeats 4000000 in
set_option maxRecDepth 100000 in
theorem mL_release (l : Launch) (lo : Nat) (D : va_G) (E : Nat → ClassId) (h : XW) (hlst : l.stackTraces = false) (Pr : Nat → Prop) (τ : CT) (ad : Nat → Nat → Nat) (fa : Nat → Nat → Option Nat) (hR : RC E Pr τ ad fa h) (hW : CW τ) (ou : Nat) (fo : Nat → Int64) (hou : Pr ou) (ho : h ou = some (.inl (E 1, 1, .inr (.inl fo)))) (a1 : Int32) (a2 : Int32) (hE : ∀ En, (wIs (fX7_release τ a1 a2)) = .inl En → En = "java/lang/IndexOutOfBoundsException" ∨ En = "java/lang/IllegalArgumentException" ∨ En = "java/lang/IllegalStateException") : Met l yL_release wsL_release ({ frames := 8, cells := 3, slots := 18, locals := 187 } : Room) (xPC lo D E h [.ref (ad 0 0), .int a1, .int a2, .ref ou]) (xQ lo D (wQ E Pr h (ad 0 0) ou fo (wIs (fX7_release τ a1 a2)) ["java/lang/IndexOutOfBoundsException", "java/lang/IllegalArgumentException", "java/lang/IllegalStateException"])) 3 18 (xA lo) := by
  refine xofWH (cc := cL_release) (maxL := 5) (ret := (some .int)) (hh := [(0, 10, 13, 19), (0, 10, 17, 21), (0, 10, 21, 13)]) (by decide) rfl ?_
  intro p e s m args below meth c s₁ B hml hv
  obtain ⟨rfl, I, hX⟩ := hv
  have hx := B.exec
  have hb := B.bytes
  have hr := B.returns
  have hts := atoms_spec (ws := wsL_release) B.pre
  have hown : s.vm.findClass RL = some m.cls := findClass_of_methodNamed B.named
  have hlocks := B.notSynchronized
  have hl := lv_entry ([.ref (ad 0 0), .int a1, .int a2, .ref ou] : List Value) (n := 5) (Nat.le_of_ble_eq_true rfl)
  rw [lg_entry_eq]
  generalize (lg_sl ([.ref (ad 0 0), .int a1, .int a2, .ref ou] : List Value) ++ List.replicate (5 - (lg_sl ([.ref (ad 0 0), .int a1, .int a2, .ref ou] : List Value)).length) Slot.unset).toArray = ls at hl ⊢
  have hl : lv_has ls 5 [(0, .ref (ad 0 0)), (1, .int a1), (2, .int a2), (3, .ref ou)] := hl
  have hS : va_S (xA lo) s.heap s.heap [] := va_S.rf
  refine lv_aload_n hx hb dL_release_0 rfl (lv_at hl 3 rfl) ?_
  refine lv_iconst (v := (nI 0)) hx hb dL_release_1 (by decide) ?_
  refine lv_aload_n hx hb dL_release_2 rfl (lv_at hl 0 rfl) ?_
  refine lv_iload_n hx hb dL_release_3 rfl (lv_at hl 1 rfl) ?_
  refine lv_iload_n hx hb dL_release_4 rfl (lv_at hl 2 rfl) ?_
  refine xcvC (As := [.int a1, .int a2]) (rest := [.int (nI 0), .ref ou]) ⟨hx, hb, hml, hown, hts⟩ (mX7_release l lo D E h hlst Pr τ ad fa hR hW a1 a2) (cwV 2 hts gL_release_X7_release rfl rfl rfl (by decide +kernel) ⟨Nat.le_of_ble_eq_true rfl, Nat.le_of_ble_eq_true rfl⟩) I hS hR.f0 rfl rfl hl.1 rfl (Nat.le_of_ble_eq_true rfl) dL_release_5 ⟨Nat.le_of_ble_eq_true rfl, Nat.le_of_ble_eq_true rfl⟩ (fun v9 hw H locs q9 I hS => ?_) (fun q9 En ce H locs hEn I hS hc1 hc2 hc3 => ?_)
  · skip
    obtain ⟨x9, e9, q1, hR2, hF2, hW2⟩ := q9
    subst q1
    refine W.eq (g2 := F0 m 8 ls [.int x9.1, .int (nI 0), .ref ou]) rfl ?_
    refine lv_i2l (v := x9.1.toInt64) hx hb dL_release_8 rfl ?_
    have ho2 : hw ou = some (.inl (E 1, 1, .inr (.inl fo))) := (hF2 ou hou).trans ho
    refine xlast (i := 0) (n := 1) hx hb I hS ho2 (by decide) (by decide) dL_release_9 (fun H locs I hS => ?_)
    have hR3 := hR2.out (e := .inl (E 1, 1, .inr (.inl (vp_updL fo 0 x9.1.toInt64)))) hou
    refine lv_goto (tgt := 25) hx hb dL_release_10 (by decide) ?_
    refine lv_iconst (v := (nI 0)) hx hb dL_release_25 (by decide) ?_
    exact W.widen (Nat.le_of_ble_eq_true rfl) (Nat.le_of_ble_eq_true rfl) (xriQ hx hb hr hlocks dL_release_26 I hS (Or.inr ⟨some x9.1.toInt64, x9.2, (by rw [e9]; simp only [wIs]), rfl, hW2, fun q hq hn => (hset_n hn).trans (hF2 q hq), ⟨ad, fa, hR3, rfl⟩, hset_s⟩))
  · skip
    have hG : (wIs (fX7_release τ a1 a2)) = .inl En := by rw [show (fX7_release τ a1 a2) = .inl En from hEn]; rfl
    have hT := vx_table (x := yL_release) B (hts _ (List.mem_of_getElem? (i := 0) rfl))
    rcases hE En hG with rfl | rfl | rfl
    · skip
      refine vx_catch (name := "java/lang/IndexOutOfBoundsException") hown [] ⟨0, 10, 13, 19⟩ [⟨0, 10, 17, 21⟩, ⟨0, 10, 21, 13⟩] hT (fun z hz => by simp at hz) (by decide +kernel) (by decide) (hts _ (List.mem_of_getElem? (i := 1) rfl)) (va_Nw.use rfl (hX.1 _ (by decide))) hc1 hc2 hc3 ?_
      refine lv_astore (lv' := [(4, .ref q9), (0, .ref (ad 0 0)), (1, .int a1), (2, .int a2), (3, .ref ou)]) hx hb dL_release_13 hl (by decide) rfl (fun ls hl => ?_)
      refine lv_iconst (v := (nI 1)) hx hb dL_release_15 (by decide) ?_
      exact W.widen (Nat.le_of_ble_eq_true rfl) (Nat.le_of_ble_eq_true rfl) (xriQ hx hb hr hlocks dL_release_16 I hS (Or.inl ⟨_, _, hG, Or.inl ⟨rfl, rfl⟩, rfl, rfl⟩))
    · skip
      refine vx_catch (name := "java/lang/IllegalArgumentException") hown [⟨0, 10, 13, 19⟩] ⟨0, 10, 17, 21⟩ [⟨0, 10, 21, 13⟩] hT (fun z hz => by
          rcases List.mem_singleton.mp hz with rfl
          exact Or.inr ⟨(by decide), "java/lang/IndexOutOfBoundsException", hts _ (List.mem_of_getElem? (i := 1) rfl), hX.2 _ (by decide) _ (by decide) (by decide)⟩) (by decide +kernel) (by decide) (hts _ (List.mem_of_getElem? (i := 2) rfl)) (va_Nw.use rfl (hX.1 _ (by decide))) hc1 hc2 hc3 ?_
      refine lv_astore (lv' := [(4, .ref q9), (0, .ref (ad 0 0)), (1, .int a1), (2, .int a2), (3, .ref ou)]) hx hb dL_release_17 hl (by decide) rfl (fun ls hl => ?_)
      refine lv_iconst (v := (nI 2)) hx hb dL_release_19 (by decide) ?_
      exact W.widen (Nat.le_of_ble_eq_true rfl) (Nat.le_of_ble_eq_true rfl) (xriQ hx hb hr hlocks dL_release_20 I hS (Or.inl ⟨_, _, hG, Or.inr (Or.inl ⟨rfl, rfl⟩), rfl, rfl⟩))
    · skip
      refine vx_catch (name := "java/lang/IllegalStateException") hown [⟨0, 10, 13, 19⟩, ⟨0, 10, 17, 21⟩] ⟨0, 10, 21, 13⟩ [] hT (fun z hz => by
          rcases List.mem_cons.mp hz with rfl | hz
          · exact Or.inr ⟨(by decide), "java/lang/IndexOutOfBoundsException", hts _ (List.mem_of_getElem? (i := 1) rfl), hX.2 _ (by decide) _ (by decide) (by decide)⟩
          · rcases List.mem_singleton.mp hz with rfl
            exact Or.inr ⟨(by decide), "java/lang/IllegalArgumentException", hts _ (List.mem_of_getElem? (i := 2) rfl), hX.2 _ (by decide) _ (by decide) (by decide)⟩) (by decide +kernel) (by decide) (hts _ (List.mem_of_getElem? (i := 3) rfl)) (va_Nw.use rfl (hX.1 _ (by decide))) hc1 hc2 hc3 ?_
      refine lv_astore (lv' := [(4, .ref q9), (0, .ref (ad 0 0)), (1, .int a1), (2, .int a2), (3, .ref ou)]) hx hb dL_release_21 hl (by decide) rfl (fun ls hl => ?_)
      refine lv_iconst (v := (nI 3)) hx hb dL_release_23 (by decide) ?_
      exact W.widen (Nat.le_of_ble_eq_true rfl) (Nat.le_of_ble_eq_true rfl) (xriQ hx hb hr hlocks dL_release_24 I hS (Or.inl ⟨_, _, hG, Or.inr (Or.inr ⟨rfl, rfl⟩), rfl, rfl⟩))

set_option maxHeartbeats 4000000 in
set_option maxRecDepth 100000 in
theorem mL_pay (l : Launch) (lo : Nat) (D : va_G) (E : Nat → ClassId) (h : XW) (hlst : l.stackTraces = false) (Pr : Nat → Prop) (τ : CT) (ad : Nat → Nat → Nat) (fa : Nat → Nat → Option Nat) (hR : RC E Pr τ ad fa h) (hW : CW τ) (ou : Nat) (fo : Nat → Int64) (hou : Pr ou) (ho : h ou = some (.inl (E 1, 1, .inr (.inl fo)))) (a1 : Int32) (a2 : Int32) (hE : ∀ En, (wLs (fX7_pay τ a1 a2)) = .inl En → En = "java/lang/IndexOutOfBoundsException" ∨ En = "java/lang/IllegalArgumentException") : Met l yL_pay wsL_pay ({ frames := 8, cells := 2, slots := 12, locals := 186 } : Room) (xPC lo D E h [.ref (ad 0 0), .int a1, .int a2, .ref ou]) (xQ lo D (wQ E Pr h (ad 0 0) ou fo (wLs (fX7_pay τ a1 a2)) ["java/lang/IndexOutOfBoundsException", "java/lang/IllegalArgumentException"])) 2 12 (xA lo) := by
  refine xofWH (cc := cL_pay) (maxL := 5) (ret := (some .int)) (hh := [(0, 9, 12, 19), (0, 9, 16, 21)]) (by decide) rfl ?_
  intro p e s m args below meth c s₁ B hml hv
  obtain ⟨rfl, I, hX⟩ := hv
  have hx := B.exec
  have hb := B.bytes
  have hr := B.returns
  have hts := atoms_spec (ws := wsL_pay) B.pre
  have hown : s.vm.findClass RL = some m.cls := findClass_of_methodNamed B.named
  have hlocks := B.notSynchronized
  have hl := lv_entry ([.ref (ad 0 0), .int a1, .int a2, .ref ou] : List Value) (n := 5) (Nat.le_of_ble_eq_true rfl)
  rw [lg_entry_eq]
  generalize (lg_sl ([.ref (ad 0 0), .int a1, .int a2, .ref ou] : List Value) ++ List.replicate (5 - (lg_sl ([.ref (ad 0 0), .int a1, .int a2, .ref ou] : List Value)).length) Slot.unset).toArray = ls at hl ⊢
  have hl : lv_has ls 5 [(0, .ref (ad 0 0)), (1, .int a1), (2, .int a2), (3, .ref ou)] := hl
  have hS : va_S (xA lo) s.heap s.heap [] := va_S.rf
  refine lv_aload_n hx hb dL_pay_0 rfl (lv_at hl 3 rfl) ?_
  refine lv_iconst (v := (nI 0)) hx hb dL_pay_1 (by decide) ?_
  refine lv_aload_n hx hb dL_pay_2 rfl (lv_at hl 0 rfl) ?_
  refine lv_iload_n hx hb dL_pay_3 rfl (lv_at hl 1 rfl) ?_
  refine lv_iload_n hx hb dL_pay_4 rfl (lv_at hl 2 rfl) ?_
  refine xcvC (As := [.int a1, .int a2]) (rest := [.int (nI 0), .ref ou]) ⟨hx, hb, hml, hown, hts⟩ (mX7_pay l lo D E h hlst Pr τ ad fa hR hW a1 a2) (cwV 2 hts gL_pay_X7_pay rfl rfl rfl (by decide +kernel) ⟨Nat.le_of_ble_eq_true rfl, Nat.le_of_ble_eq_true rfl⟩) I hS hR.f0 rfl rfl hl.1 rfl (Nat.le_of_ble_eq_true rfl) dL_pay_5 ⟨Nat.le_of_ble_eq_true rfl, Nat.le_of_ble_eq_true rfl⟩ (fun v9 hw H locs q9 I hS => ?_) (fun q9 En ce H locs hEn I hS hc1 hc2 hc3 => ?_)
  · skip
    obtain ⟨x9, e9, q1, hR2, hF2, hW2⟩ := q9
    subst q1
    refine W.eq (g2 := F0 m 8 ls [.long x9.1, .int (nI 0), .ref ou]) rfl ?_
    have ho2 : hw ou = some (.inl (E 1, 1, .inr (.inl fo))) := (hF2 ou hou).trans ho
    refine xlast (i := 0) (n := 1) hx hb I hS ho2 (by decide) (by decide) dL_pay_8 (fun H locs I hS => ?_)
    have hR3 := hR2.out (e := .inl (E 1, 1, .inr (.inl (vp_updL fo 0 x9.1)))) hou
    refine lv_goto (tgt := 20) hx hb dL_pay_9 (by decide) ?_
    refine lv_iconst (v := (nI 0)) hx hb dL_pay_20 (by decide) ?_
    exact W.widen (Nat.le_of_ble_eq_true rfl) (Nat.le_of_ble_eq_true rfl) (xriQ hx hb hr hlocks dL_pay_21 I hS (Or.inr ⟨some x9.1, x9.2, (by rw [e9]; simp only [wLs]), rfl, hW2, fun q hq hn => (hset_n hn).trans (hF2 q hq), ⟨ad, fa, hR3, rfl⟩, hset_s⟩))
  · skip
    have hG : (wLs (fX7_pay τ a1 a2)) = .inl En := by rw [show (fX7_pay τ a1 a2) = .inl En from hEn]; rfl
    have hT := vx_table (x := yL_pay) B (hts _ (List.mem_of_getElem? (i := 0) rfl))
    rcases hE En hG with rfl | rfl
    · skip
      refine vx_catch (name := "java/lang/IndexOutOfBoundsException") hown [] ⟨0, 9, 12, 19⟩ [⟨0, 9, 16, 21⟩] hT (fun z hz => by simp at hz) (by decide +kernel) (by decide) (hts _ (List.mem_of_getElem? (i := 1) rfl)) (va_Nw.use rfl (hX.1 _ (by decide))) hc1 hc2 hc3 ?_
      refine lv_astore (lv' := [(4, .ref q9), (0, .ref (ad 0 0)), (1, .int a1), (2, .int a2), (3, .ref ou)]) hx hb dL_pay_12 hl (by decide) rfl (fun ls hl => ?_)
      refine lv_iconst (v := (nI 1)) hx hb dL_pay_14 (by decide) ?_
      exact W.widen (Nat.le_of_ble_eq_true rfl) (Nat.le_of_ble_eq_true rfl) (xriQ hx hb hr hlocks dL_pay_15 I hS (Or.inl ⟨_, _, hG, Or.inl ⟨rfl, rfl⟩, rfl, rfl⟩))
    · skip
      refine vx_catch (name := "java/lang/IllegalArgumentException") hown [⟨0, 9, 12, 19⟩] ⟨0, 9, 16, 21⟩ [] hT (fun z hz => by
          rcases List.mem_singleton.mp hz with rfl
          exact Or.inr ⟨(by decide), "java/lang/IndexOutOfBoundsException", hts _ (List.mem_of_getElem? (i := 1) rfl), hX.2 _ (by decide) _ (by decide) (by decide)⟩) (by decide +kernel) (by decide) (hts _ (List.mem_of_getElem? (i := 2) rfl)) (va_Nw.use rfl (hX.1 _ (by decide))) hc1 hc2 hc3 ?_
      refine lv_astore (lv' := [(4, .ref q9), (0, .ref (ad 0 0)), (1, .int a1), (2, .int a2), (3, .ref ou)]) hx hb dL_pay_16 hl (by decide) rfl (fun ls hl => ?_)
      refine lv_iconst (v := (nI 2)) hx hb dL_pay_18 (by decide) ?_
      exact W.widen (Nat.le_of_ble_eq_true rfl) (Nat.le_of_ble_eq_true rfl) (xriQ hx hb hr hlocks dL_pay_19 I hS (Or.inl ⟨_, _, hG, Or.inr ⟨rfl, rfl⟩, rfl, rfl⟩))

set_option maxHeartbeats 4000000 in
set_option maxRecDepth 100000 in
theorem mL_stop (l : Launch) (lo : Nat) (D : va_G) (E : Nat → ClassId) (h : XW) (hlst : l.stackTraces = false) (Pr : Nat → Prop) (τ : CT) (ad : Nat → Nat → Nat) (fa : Nat → Nat → Option Nat) (hR : RC E Pr τ ad fa h) (hW : CW τ) (ou : Nat) (fo : Nat → Int64) (hou : Pr ou) (ho : h ou = some (.inl (E 1, 1, .inr (.inl fo)))) (a1 : Int32) (a2 : Int32) (hE : ∀ En, (wIs (fX7_stop τ a1 a2)) = .inl En → En = "java/lang/IndexOutOfBoundsException" ∨ En = "java/lang/IllegalArgumentException" ∨ En = "java/lang/IllegalStateException") : Met l yL_stop wsL_stop ({ frames := 8, cells := 3, slots := 18, locals := 185 } : Room) (xPC lo D E h [.ref (ad 0 0), .int a1, .int a2, .ref ou]) (xQ lo D (wQ E Pr h (ad 0 0) ou fo (wIs (fX7_stop τ a1 a2)) ["java/lang/IndexOutOfBoundsException", "java/lang/IllegalArgumentException", "java/lang/IllegalStateException"])) 3 18 (xA lo) := by
  refine xofWH (cc := cL_stop) (maxL := 5) (ret := (some .int)) (hh := [(0, 10, 13, 19), (0, 10, 17, 21), (0, 10, 21, 13)]) (by decide) rfl ?_
  intro p e s m args below meth c s₁ B hml hv
  obtain ⟨rfl, I, hX⟩ := hv
  have hx := B.exec
  have hb := B.bytes
  have hr := B.returns
  have hts := atoms_spec (ws := wsL_stop) B.pre
  have hown : s.vm.findClass RL = some m.cls := findClass_of_methodNamed B.named
  have hlocks := B.notSynchronized
  have hl := lv_entry ([.ref (ad 0 0), .int a1, .int a2, .ref ou] : List Value) (n := 5) (Nat.le_of_ble_eq_true rfl)
  rw [lg_entry_eq]
  generalize (lg_sl ([.ref (ad 0 0), .int a1, .int a2, .ref ou] : List Value) ++ List.replicate (5 - (lg_sl ([.ref (ad 0 0), .int a1, .int a2, .ref ou] : List Value)).length) Slot.unset).toArray = ls at hl ⊢
  have hl : lv_has ls 5 [(0, .ref (ad 0 0)), (1, .int a1), (2, .int a2), (3, .ref ou)] := hl
  have hS : va_S (xA lo) s.heap s.heap [] := va_S.rf
  refine lv_aload_n hx hb dL_stop_0 rfl (lv_at hl 3 rfl) ?_
  refine lv_iconst (v := (nI 0)) hx hb dL_stop_1 (by decide) ?_
  refine lv_aload_n hx hb dL_stop_2 rfl (lv_at hl 0 rfl) ?_
  refine lv_iload_n hx hb dL_stop_3 rfl (lv_at hl 1 rfl) ?_
  refine lv_iload_n hx hb dL_stop_4 rfl (lv_at hl 2 rfl) ?_
  refine xcvC (As := [.int a1, .int a2]) (rest := [.int (nI 0), .ref ou]) ⟨hx, hb, hml, hown, hts⟩ (mX7_stop l lo D E h hlst Pr τ ad fa hR hW a1 a2) (cwV 2 hts gL_stop_X7_stop rfl rfl rfl (by decide +kernel) ⟨Nat.le_of_ble_eq_true rfl, Nat.le_of_ble_eq_true rfl⟩) I hS hR.f0 rfl rfl hl.1 rfl (Nat.le_of_ble_eq_true rfl) dL_stop_5 ⟨Nat.le_of_ble_eq_true rfl, Nat.le_of_ble_eq_true rfl⟩ (fun v9 hw H locs q9 I hS => ?_) (fun q9 En ce H locs hEn I hS hc1 hc2 hc3 => ?_)
  · skip
    obtain ⟨x9, e9, q1, hR2, hF2, hW2⟩ := q9
    subst q1
    refine W.eq (g2 := F0 m 8 ls [.int x9.1, .int (nI 0), .ref ou]) rfl ?_
    refine lv_i2l (v := x9.1.toInt64) hx hb dL_stop_8 rfl ?_
    have ho2 : hw ou = some (.inl (E 1, 1, .inr (.inl fo))) := (hF2 ou hou).trans ho
    refine xlast (i := 0) (n := 1) hx hb I hS ho2 (by decide) (by decide) dL_stop_9 (fun H locs I hS => ?_)
    have hR3 := hR2.out (e := .inl (E 1, 1, .inr (.inl (vp_updL fo 0 x9.1.toInt64)))) hou
    refine lv_goto (tgt := 25) hx hb dL_stop_10 (by decide) ?_
    refine lv_iconst (v := (nI 0)) hx hb dL_stop_25 (by decide) ?_
    exact W.widen (Nat.le_of_ble_eq_true rfl) (Nat.le_of_ble_eq_true rfl) (xriQ hx hb hr hlocks dL_stop_26 I hS (Or.inr ⟨some x9.1.toInt64, x9.2, (by rw [e9]; simp only [wIs]), rfl, hW2, fun q hq hn => (hset_n hn).trans (hF2 q hq), ⟨ad, fa, hR3, rfl⟩, hset_s⟩))
  · skip
    have hG : (wIs (fX7_stop τ a1 a2)) = .inl En := by rw [show (fX7_stop τ a1 a2) = .inl En from hEn]; rfl
    have hT := vx_table (x := yL_stop) B (hts _ (List.mem_of_getElem? (i := 0) rfl))
    rcases hE En hG with rfl | rfl | rfl
    · skip
      refine vx_catch (name := "java/lang/IndexOutOfBoundsException") hown [] ⟨0, 10, 13, 19⟩ [⟨0, 10, 17, 21⟩, ⟨0, 10, 21, 13⟩] hT (fun z hz => by simp at hz) (by decide +kernel) (by decide) (hts _ (List.mem_of_getElem? (i := 1) rfl)) (va_Nw.use rfl (hX.1 _ (by decide))) hc1 hc2 hc3 ?_
      refine lv_astore (lv' := [(4, .ref q9), (0, .ref (ad 0 0)), (1, .int a1), (2, .int a2), (3, .ref ou)]) hx hb dL_stop_13 hl (by decide) rfl (fun ls hl => ?_)
      refine lv_iconst (v := (nI 1)) hx hb dL_stop_15 (by decide) ?_
      exact W.widen (Nat.le_of_ble_eq_true rfl) (Nat.le_of_ble_eq_true rfl) (xriQ hx hb hr hlocks dL_stop_16 I hS (Or.inl ⟨_, _, hG, Or.inl ⟨rfl, rfl⟩, rfl, rfl⟩))
    · skip
      refine vx_catch (name := "java/lang/IllegalArgumentException") hown [⟨0, 10, 13, 19⟩] ⟨0, 10, 17, 21⟩ [⟨0, 10, 21, 13⟩] hT (fun z hz => by
          rcases List.mem_singleton.mp hz with rfl
          exact Or.inr ⟨(by decide), "java/lang/IndexOutOfBoundsException", hts _ (List.mem_of_getElem? (i := 1) rfl), hX.2 _ (by decide) _ (by decide) (by decide)⟩) (by decide +kernel) (by decide) (hts _ (List.mem_of_getElem? (i := 2) rfl)) (va_Nw.use rfl (hX.1 _ (by decide))) hc1 hc2 hc3 ?_
      refine lv_astore (lv' := [(4, .ref q9), (0, .ref (ad 0 0)), (1, .int a1), (2, .int a2), (3, .ref ou)]) hx hb dL_stop_17 hl (by decide) rfl (fun ls hl => ?_)
      refine lv_iconst (v := (nI 2)) hx hb dL_stop_19 (by decide) ?_
      exact W.widen (Nat.le_of_ble_eq_true rfl) (Nat.le_of_ble_eq_true rfl) (xriQ hx hb hr hlocks dL_stop_20 I hS (Or.inl ⟨_, _, hG, Or.inr (Or.inl ⟨rfl, rfl⟩), rfl, rfl⟩))
    · skip
      refine vx_catch (name := "java/lang/IllegalStateException") hown [⟨0, 10, 13, 19⟩, ⟨0, 10, 17, 21⟩] ⟨0, 10, 21, 13⟩ [] hT (fun z hz => by
          rcases List.mem_cons.mp hz with rfl | hz
          · exact Or.inr ⟨(by decide), "java/lang/IndexOutOfBoundsException", hts _ (List.mem_of_getElem? (i := 1) rfl), hX.2 _ (by decide) _ (by decide) (by decide)⟩
          · rcases List.mem_singleton.mp hz with rfl
            exact Or.inr ⟨(by decide), "java/lang/IllegalArgumentException", hts _ (List.mem_of_getElem? (i := 2) rfl), hX.2 _ (by decide) _ (by decide) (by decide)⟩) (by decide +kernel) (by decide) (hts _ (List.mem_of_getElem? (i := 3) rfl)) (va_Nw.use rfl (hX.1 _ (by decide))) hc1 hc2 hc3 ?_
      refine lv_astore (lv' := [(4, .ref q9), (0, .ref (ad 0 0)), (1, .int a1), (2, .int a2), (3, .ref ou)]) hx hb dL_stop_21 hl (by decide) rfl (fun ls hl => ?_)
      refine lv_iconst (v := (nI 3)) hx hb dL_stop_23 (by decide) ?_
      exact W.widen (Nat.le_of_ble_eq_true rfl) (Nat.le_of_ble_eq_true rfl) (xriQ hx hb hr hlocks dL_stop_24 I hS (Or.inl ⟨_, _, hG, Or.inr (Or.inr ⟨rfl, rfl⟩), rfl, rfl⟩))

set_option maxHeartbeats 4000000 in
set_option maxRecDepth 100000 in
theorem mL_close (l : Launch) (lo : Nat) (D : va_G) (E : Nat → ClassId) (h : XW) (hlst : l.stackTraces = false) (Pr : Nat → Prop) (τ : CT) (ad : Nat → Nat → Nat) (fa : Nat → Nat → Option Nat) (hR : RC E Pr τ ad fa h) (hW : CW τ) (ou : Nat) (fo : Nat → Int64) (hou : Pr ou) (ho : h ou = some (.inl (E 1, 1, .inr (.inl fo)))) (a1 : Int32) (hE : ∀ En, (wLs (fX7_close τ a1)) = .inl En → En = "java/lang/IllegalArgumentException" ∨ En = "java/lang/IllegalStateException") : Met l yL_close wsL_close ({ frames := 9, cells := 3, slots := 18, locals := 193 } : Room) (xPC lo D E h [.ref (ad 0 0), .int a1, .ref ou]) (xQ lo D (wQ E Pr h (ad 0 0) ou fo (wLs (fX7_close τ a1)) ["java/lang/IllegalArgumentException", "java/lang/IllegalStateException"])) 3 18 (xA lo) := by
  refine xofWH (cc := cL_close) (maxL := 4) (ret := (some .int)) (hh := [(0, 8, 11, 21), (0, 8, 14, 13)]) (by decide) rfl ?_
  intro p e s m args below meth c s₁ B hml hv
  obtain ⟨rfl, I, hX⟩ := hv
  have hx := B.exec
  have hb := B.bytes
  have hr := B.returns
  have hts := atoms_spec (ws := wsL_close) B.pre
  have hown : s.vm.findClass RL = some m.cls := findClass_of_methodNamed B.named
  have hlocks := B.notSynchronized
  have hl := lv_entry ([.ref (ad 0 0), .int a1, .ref ou] : List Value) (n := 4) (Nat.le_of_ble_eq_true rfl)
  rw [lg_entry_eq]
  generalize (lg_sl ([.ref (ad 0 0), .int a1, .ref ou] : List Value) ++ List.replicate (4 - (lg_sl ([.ref (ad 0 0), .int a1, .ref ou] : List Value)).length) Slot.unset).toArray = ls at hl ⊢
  have hl : lv_has ls 4 [(0, .ref (ad 0 0)), (1, .int a1), (2, .ref ou)] := hl
  have hS : va_S (xA lo) s.heap s.heap [] := va_S.rf
  refine lv_aload_n hx hb dL_close_0 rfl (lv_at hl 2 rfl) ?_
  refine lv_iconst (v := (nI 0)) hx hb dL_close_1 (by decide) ?_
  refine lv_aload_n hx hb dL_close_2 rfl (lv_at hl 0 rfl) ?_
  refine lv_iload_n hx hb dL_close_3 rfl (lv_at hl 1 rfl) ?_
  refine xcvC (As := [.int a1]) (rest := [.int (nI 0), .ref ou]) ⟨hx, hb, hml, hown, hts⟩ (mX7_close l lo D E h hlst Pr τ ad fa hR hW a1) (cwV 1 hts gL_close_X7_close rfl rfl rfl (by decide +kernel) ⟨Nat.le_of_ble_eq_true rfl, Nat.le_of_ble_eq_true rfl⟩) I hS hR.f0 rfl rfl hl.1 rfl (Nat.le_of_ble_eq_true rfl) dL_close_4 ⟨Nat.le_of_ble_eq_true rfl, Nat.le_of_ble_eq_true rfl⟩ (fun v9 hw H locs q9 I hS => ?_) (fun q9 En ce H locs hEn I hS hc1 hc2 hc3 => ?_)
  · skip
    obtain ⟨x9, e9, q1, hR2, hF2, hW2⟩ := q9
    subst q1
    refine W.eq (g2 := F0 m 7 ls [.long x9.1, .int (nI 0), .ref ou]) rfl ?_
    have ho2 : hw ou = some (.inl (E 1, 1, .inr (.inl fo))) := (hF2 ou hou).trans ho
    refine xlast (i := 0) (n := 1) hx hb I hS ho2 (by decide) (by decide) dL_close_7 (fun H locs I hS => ?_)
    have hR3 := hR2.out (e := .inl (E 1, 1, .inr (.inl (vp_updL fo 0 x9.1)))) hou
    refine lv_goto (tgt := 17) hx hb dL_close_8 (by decide) ?_
    refine lv_iconst (v := (nI 0)) hx hb dL_close_17 (by decide) ?_
    exact W.widen (Nat.le_of_ble_eq_true rfl) (Nat.le_of_ble_eq_true rfl) (xriQ hx hb hr hlocks dL_close_18 I hS (Or.inr ⟨some x9.1, x9.2, (by rw [e9]; simp only [wLs]), rfl, hW2, fun q hq hn => (hset_n hn).trans (hF2 q hq), ⟨ad, fa, hR3, rfl⟩, hset_s⟩))
  · skip
    have hG : (wLs (fX7_close τ a1)) = .inl En := by rw [show (fX7_close τ a1) = .inl En from hEn]; rfl
    have hT := vx_table (x := yL_close) B (hts _ (List.mem_of_getElem? (i := 0) rfl))
    rcases hE En hG with rfl | rfl
    · skip
      refine vx_catch (name := "java/lang/IllegalArgumentException") hown [] ⟨0, 8, 11, 21⟩ [⟨0, 8, 14, 13⟩] hT (fun z hz => by simp at hz) (by decide +kernel) (by decide) (hts _ (List.mem_of_getElem? (i := 1) rfl)) (va_Nw.use rfl (hX.1 _ (by decide))) hc1 hc2 hc3 ?_
      refine lv_astore_n (lv' := [(3, .ref q9), (0, .ref (ad 0 0)), (1, .int a1), (2, .ref ou)]) hx hb dL_close_11 rfl hl (by decide) rfl (fun ls hl => ?_)
      refine lv_iconst (v := (nI 1)) hx hb dL_close_12 (by decide) ?_
      exact W.widen (Nat.le_of_ble_eq_true rfl) (Nat.le_of_ble_eq_true rfl) (xriQ hx hb hr hlocks dL_close_13 I hS (Or.inl ⟨_, _, hG, Or.inl ⟨rfl, rfl⟩, rfl, rfl⟩))
    · skip
      refine vx_catch (name := "java/lang/IllegalStateException") hown [⟨0, 8, 11, 21⟩] ⟨0, 8, 14, 13⟩ [] hT (fun z hz => by
          rcases List.mem_singleton.mp hz with rfl
          exact Or.inr ⟨(by decide), "java/lang/IllegalArgumentException", hts _ (List.mem_of_getElem? (i := 1) rfl), hX.2 _ (by decide) _ (by decide) (by decide)⟩) (by decide +kernel) (by decide) (hts _ (List.mem_of_getElem? (i := 2) rfl)) (va_Nw.use rfl (hX.1 _ (by decide))) hc1 hc2 hc3 ?_
      refine lv_astore_n (lv' := [(3, .ref q9), (0, .ref (ad 0 0)), (1, .int a1), (2, .ref ou)]) hx hb dL_close_14 rfl hl (by decide) rfl (fun ls hl => ?_)
      refine lv_iconst (v := (nI 2)) hx hb dL_close_15 (by decide) ?_
      exact W.widen (Nat.le_of_ble_eq_true rfl) (Nat.le_of_ble_eq_true rfl) (xriQ hx hb hr hlocks dL_close_16 I hS (Or.inl ⟨_, _, hG, Or.inr ⟨rfl, rfl⟩, rfl, rfl⟩))

set_option maxHeartbeats 4000000 in
set_option maxRecDepth 100000 in
theorem mL_due (l : Launch) (lo : Nat) (D : va_G) (E : Nat → ClassId) (h : XW) (hlst : l.stackTraces = false) (Pr : Nat → Prop) (τ : CT) (ad : Nat → Nat → Nat) (fa : Nat → Nat → Option Nat) (hR : RC E Pr τ ad fa h) (hW : CW τ) (ou : Nat) (fo : Nat → Int64) (hou : Pr ou) (ho : h ou = some (.inl (E 1, 1, .inr (.inl fo)))) (a1 : Int32) (a2 : Int32) (hE : ∀ En, (wL τ (fX7_due τ a1 a2)) = .inl En → En = "java/lang/IndexOutOfBoundsException" ∨ En = "java/lang/IllegalArgumentException") : Met l yL_due wsL_due ({ frames := 9, cells := 2, slots := 12, locals := 171 } : Room) (xPC lo D E h [.ref (ad 0 0), .int a1, .int a2, .ref ou]) (xQ lo D (wQ E Pr h (ad 0 0) ou fo (wL τ (fX7_due τ a1 a2)) ["java/lang/IndexOutOfBoundsException", "java/lang/IllegalArgumentException"])) 2 12 (xA lo) := by
  refine xofWH (cc := cL_due) (maxL := 5) (ret := (some .int)) (hh := [(0, 9, 12, 19), (0, 9, 16, 21)]) (by decide) rfl ?_
  intro p e s m args below meth c s₁ B hml hv
  obtain ⟨rfl, I, hX⟩ := hv
  have hx := B.exec
  have hb := B.bytes
  have hr := B.returns
  have hts := atoms_spec (ws := wsL_due) B.pre
  have hown : s.vm.findClass RL = some m.cls := findClass_of_methodNamed B.named
  have hlocks := B.notSynchronized
  have hl := lv_entry ([.ref (ad 0 0), .int a1, .int a2, .ref ou] : List Value) (n := 5) (Nat.le_of_ble_eq_true rfl)
  rw [lg_entry_eq]
  generalize (lg_sl ([.ref (ad 0 0), .int a1, .int a2, .ref ou] : List Value) ++ List.replicate (5 - (lg_sl ([.ref (ad 0 0), .int a1, .int a2, .ref ou] : List Value)).length) Slot.unset).toArray = ls at hl ⊢
  have hl : lv_has ls 5 [(0, .ref (ad 0 0)), (1, .int a1), (2, .int a2), (3, .ref ou)] := hl
  have hS : va_S (xA lo) s.heap s.heap [] := va_S.rf
  refine lv_aload_n hx hb dL_due_0 rfl (lv_at hl 3 rfl) ?_
  refine lv_iconst (v := (nI 0)) hx hb dL_due_1 (by decide) ?_
  refine lv_aload_n hx hb dL_due_2 rfl (lv_at hl 0 rfl) ?_
  refine lv_iload_n hx hb dL_due_3 rfl (lv_at hl 1 rfl) ?_
  refine lv_iload_n hx hb dL_due_4 rfl (lv_at hl 2 rfl) ?_
  refine xcvC (As := [.int a1, .int a2]) (rest := [.int (nI 0), .ref ou]) ⟨hx, hb, hml, hown, hts⟩ (mX7_due l lo D E h hlst Pr τ ad fa hR hW a1 a2) (cwV 2 hts gL_due_X7_due rfl rfl rfl (by decide +kernel) ⟨Nat.le_of_ble_eq_true rfl, Nat.le_of_ble_eq_true rfl⟩) I hS hR.f0 rfl rfl hl.1 rfl (Nat.le_of_ble_eq_true rfl) dL_due_5 ⟨Nat.le_of_ble_eq_true rfl, Nat.le_of_ble_eq_true rfl⟩ (fun v9 hw H locs q9 I hS => ?_) (fun q9 En ce H locs hEn I hS hc1 hc2 hc3 => ?_)
  · skip
    obtain ⟨x9, e9, q1, q2⟩ := q9
    subst q1
    rw [q2] at I
    have hF2 : cF Pr h h := cF.rf
    have hR2 := hR
    have hW2 := hW
    refine W.eq (g2 := F0 m 8 ls [.long x9, .int (nI 0), .ref ou]) rfl ?_
    have ho2 : h ou = some (.inl (E 1, 1, .inr (.inl fo))) := (hF2 ou hou).trans ho
    refine xlast (i := 0) (n := 1) hx hb I hS ho2 (by decide) (by decide) dL_due_8 (fun H locs I hS => ?_)
    have hR3 := hR2.out (e := .inl (E 1, 1, .inr (.inl (vp_updL fo 0 x9)))) hou
    refine lv_goto (tgt := 20) hx hb dL_due_9 (by decide) ?_
    refine lv_iconst (v := (nI 0)) hx hb dL_due_20 (by decide) ?_
    exact W.widen (Nat.le_of_ble_eq_true rfl) (Nat.le_of_ble_eq_true rfl) (xriQ hx hb hr hlocks dL_due_21 I hS (Or.inr ⟨some x9, τ, (by rw [e9]; simp only [wL]), rfl, hW2, fun q hq hn => (hset_n hn).trans (hF2 q hq), ⟨ad, fa, hR3, rfl⟩, hset_s⟩))
  · skip
    have hG : (wL τ (fX7_due τ a1 a2)) = .inl En := by rw [show (fX7_due τ a1 a2) = .inl En from hEn]; rfl
    have hT := vx_table (x := yL_due) B (hts _ (List.mem_of_getElem? (i := 0) rfl))
    rcases hE En hG with rfl | rfl
    · skip
      refine vx_catch (name := "java/lang/IndexOutOfBoundsException") hown [] ⟨0, 9, 12, 19⟩ [⟨0, 9, 16, 21⟩] hT (fun z hz => by simp at hz) (by decide +kernel) (by decide) (hts _ (List.mem_of_getElem? (i := 1) rfl)) (va_Nw.use rfl (hX.1 _ (by decide))) hc1 hc2 hc3 ?_
      refine lv_astore (lv' := [(4, .ref q9), (0, .ref (ad 0 0)), (1, .int a1), (2, .int a2), (3, .ref ou)]) hx hb dL_due_12 hl (by decide) rfl (fun ls hl => ?_)
      refine lv_iconst (v := (nI 1)) hx hb dL_due_14 (by decide) ?_
      exact W.widen (Nat.le_of_ble_eq_true rfl) (Nat.le_of_ble_eq_true rfl) (xriQ hx hb hr hlocks dL_due_15 I hS (Or.inl ⟨_, _, hG, Or.inl ⟨rfl, rfl⟩, rfl, rfl⟩))
    · skip
      refine vx_catch (name := "java/lang/IllegalArgumentException") hown [⟨0, 9, 12, 19⟩] ⟨0, 9, 16, 21⟩ [] hT (fun z hz => by
          rcases List.mem_singleton.mp hz with rfl
          exact Or.inr ⟨(by decide), "java/lang/IndexOutOfBoundsException", hts _ (List.mem_of_getElem? (i := 1) rfl), hX.2 _ (by decide) _ (by decide) (by decide)⟩) (by decide +kernel) (by decide) (hts _ (List.mem_of_getElem? (i := 2) rfl)) (va_Nw.use rfl (hX.1 _ (by decide))) hc1 hc2 hc3 ?_
      refine lv_astore (lv' := [(4, .ref q9), (0, .ref (ad 0 0)), (1, .int a1), (2, .int a2), (3, .ref ou)]) hx hb dL_due_16 hl (by decide) rfl (fun ls hl => ?_)
      refine lv_iconst (v := (nI 2)) hx hb dL_due_18 (by decide) ?_
      exact W.widen (Nat.le_of_ble_eq_true rfl) (Nat.le_of_ble_eq_true rfl) (xriQ hx hb hr hlocks dL_due_19 I hS (Or.inl ⟨_, _, hG, Or.inr ⟨rfl, rfl⟩, rfl, rfl⟩))

set_option maxHeartbeats 4000000 in
set_option maxRecDepth 100000 in
theorem mL_owes (l : Launch) (lo : Nat) (D : va_G) (E : Nat → ClassId) (h : XW) (hlst : l.stackTraces = false) (Pr : Nat → Prop) (τ : CT) (ad : Nat → Nat → Nat) (fa : Nat → Nat → Option Nat) (hR : RC E Pr τ ad fa h) (hW : CW τ) (ou : Nat) (fo : Nat → Int64) (hou : Pr ou) (ho : h ou = some (.inl (E 1, 1, .inr (.inl fo)))) (a1 : Int32) (hE : ∀ En, (wL τ (fX7_owes τ a1)) = .inl En → En = "java/lang/IndexOutOfBoundsException") : Met l yL_owes wsL_owes ({ frames := 8, cells := 1, slots := 6, locals := 182 } : Room) (xPC lo D E h [.ref (ad 0 0), .int a1, .ref ou]) (xQ lo D (wQ E Pr h (ad 0 0) ou fo (wL τ (fX7_owes τ a1)) ["java/lang/IndexOutOfBoundsException"])) 1 6 (xA lo) := by
  refine xofWH (cc := cL_owes) (maxL := 4) (ret := (some .int)) (hh := [(0, 8, 11, 19)]) (by decide) rfl ?_
  intro p e s m args below meth c s₁ B hml hv
  obtain ⟨rfl, I, hX⟩ := hv
  have hx := B.exec
  have hb := B.bytes
  have hr := B.returns
  have hts := atoms_spec (ws := wsL_owes) B.pre
  have hown : s.vm.findClass RL = some m.cls := findClass_of_methodNamed B.named
  have hlocks := B.notSynchronized
  have hl := lv_entry ([.ref (ad 0 0), .int a1, .ref ou] : List Value) (n := 4) (Nat.le_of_ble_eq_true rfl)
  rw [lg_entry_eq]
  generalize (lg_sl ([.ref (ad 0 0), .int a1, .ref ou] : List Value) ++ List.replicate (4 - (lg_sl ([.ref (ad 0 0), .int a1, .ref ou] : List Value)).length) Slot.unset).toArray = ls at hl ⊢
  have hl : lv_has ls 4 [(0, .ref (ad 0 0)), (1, .int a1), (2, .ref ou)] := hl
  have hS : va_S (xA lo) s.heap s.heap [] := va_S.rf
  refine lv_aload_n hx hb dL_owes_0 rfl (lv_at hl 2 rfl) ?_
  refine lv_iconst (v := (nI 0)) hx hb dL_owes_1 (by decide) ?_
  refine lv_aload_n hx hb dL_owes_2 rfl (lv_at hl 0 rfl) ?_
  refine lv_iload_n hx hb dL_owes_3 rfl (lv_at hl 1 rfl) ?_
  refine xcvC (As := [.int a1]) (rest := [.int (nI 0), .ref ou]) ⟨hx, hb, hml, hown, hts⟩ (mX7_owes l lo D E h hlst Pr τ ad fa hR hW a1) (cwV 1 hts gL_owes_X7_owes rfl rfl rfl (by decide +kernel) ⟨Nat.le_of_ble_eq_true rfl, Nat.le_of_ble_eq_true rfl⟩) I hS hR.f0 rfl rfl hl.1 rfl (Nat.le_of_ble_eq_true rfl) dL_owes_4 ⟨Nat.le_of_ble_eq_true rfl, Nat.le_of_ble_eq_true rfl⟩ (fun v9 hw H locs q9 I hS => ?_) (fun q9 En ce H locs hEn I hS hc1 hc2 hc3 => ?_)
  · skip
    obtain ⟨x9, e9, q1, q2⟩ := q9
    subst q1
    rw [q2] at I
    have hF2 : cF Pr h h := cF.rf
    have hR2 := hR
    have hW2 := hW
    refine W.eq (g2 := F0 m 7 ls [.long x9, .int (nI 0), .ref ou]) rfl ?_
    have ho2 : h ou = some (.inl (E 1, 1, .inr (.inl fo))) := (hF2 ou hou).trans ho
    refine xlast (i := 0) (n := 1) hx hb I hS ho2 (by decide) (by decide) dL_owes_7 (fun H locs I hS => ?_)
    have hR3 := hR2.out (e := .inl (E 1, 1, .inr (.inl (vp_updL fo 0 x9)))) hou
    refine lv_goto (tgt := 14) hx hb dL_owes_8 (by decide) ?_
    refine lv_iconst (v := (nI 0)) hx hb dL_owes_14 (by decide) ?_
    exact W.widen (Nat.le_of_ble_eq_true rfl) (Nat.le_of_ble_eq_true rfl) (xriQ hx hb hr hlocks dL_owes_15 I hS (Or.inr ⟨some x9, τ, (by rw [e9]; simp only [wL]), rfl, hW2, fun q hq hn => (hset_n hn).trans (hF2 q hq), ⟨ad, fa, hR3, rfl⟩, hset_s⟩))
  · skip
    have hG : (wL τ (fX7_owes τ a1)) = .inl En := by rw [show (fX7_owes τ a1) = .inl En from hEn]; rfl
    have hT := vx_table (x := yL_owes) B (hts _ (List.mem_of_getElem? (i := 0) rfl))
    rcases hE En hG with rfl
    · skip
      refine vx_catch (name := "java/lang/IndexOutOfBoundsException") hown [] ⟨0, 8, 11, 19⟩ [] hT (fun z hz => by simp at hz) (by decide +kernel) (by decide) (hts _ (List.mem_of_getElem? (i := 1) rfl)) (va_Nw.use rfl (hX.1 _ (by decide))) hc1 hc2 hc3 ?_
      refine lv_astore_n (lv' := [(3, .ref q9), (0, .ref (ad 0 0)), (1, .int a1), (2, .ref ou)]) hx hb dL_owes_11 rfl hl (by decide) rfl (fun ls hl => ?_)
      refine lv_iconst (v := (nI 1)) hx hb dL_owes_12 (by decide) ?_
      exact W.widen (Nat.le_of_ble_eq_true rfl) (Nat.le_of_ble_eq_true rfl) (xriQ hx hb hr hlocks dL_owes_13 I hS (Or.inl ⟨_, _, hG, ⟨rfl, rfl⟩, rfl, rfl⟩))

set_option maxHeartbeats 4000000 in
set_option maxRecDepth 100000 in
theorem mL_result (l : Launch) (lo : Nat) (D : va_G) (E : Nat → ClassId) (h : XW) (hlst : l.stackTraces = false) (Pr : Nat → Prop) (τ : CT) (ad : Nat → Nat → Nat) (fa : Nat → Nat → Option Nat) (hR : RC E Pr τ ad fa h) (hW : CW τ) (ou : Nat) (fo : Nat → Int64) (hou : Pr ou) (ho : h ou = some (.inl (E 1, 1, .inr (.inl fo)))) (a1 : Int32) (hE : ∀ En, (wL τ (fX7_result τ a1)) = .inl En → En = "java/lang/IllegalArgumentException") : Met l yL_result wsL_result ({ frames := 9, cells := 1, slots := 6, locals := 181 } : Room) (xPC lo D E h [.ref (ad 0 0), .int a1, .ref ou]) (xQ lo D (wQ E Pr h (ad 0 0) ou fo (wL τ (fX7_result τ a1)) ["java/lang/IllegalArgumentException"])) 1 6 (xA lo) := by
  refine xofWH (cc := cL_result) (maxL := 4) (ret := (some .int)) (hh := [(0, 8, 11, 21)]) (by decide) rfl ?_
  intro p e s m args below meth c s₁ B hml hv
  obtain ⟨rfl, I, hX⟩ := hv
  have hx := B.exec
  have hb := B.bytes
  have hr := B.returns
  have hts := atoms_spec (ws := wsL_result) B.pre
  have hown : s.vm.findClass RL = some m.cls := findClass_of_methodNamed B.named
  have hlocks := B.notSynchronized
  have hl := lv_entry ([.ref (ad 0 0), .int a1, .ref ou] : List Value) (n := 4) (Nat.le_of_ble_eq_true rfl)
  rw [lg_entry_eq]
  generalize (lg_sl ([.ref (ad 0 0), .int a1, .ref ou] : List Value) ++ List.replicate (4 - (lg_sl ([.ref (ad 0 0), .int a1, .ref ou] : List Value)).length) Slot.unset).toArray = ls at hl ⊢
  have hl : lv_has ls 4 [(0, .ref (ad 0 0)), (1, .int a1), (2, .ref ou)] := hl
  have hS : va_S (xA lo) s.heap s.heap [] := va_S.rf
  refine lv_aload_n hx hb dL_result_0 rfl (lv_at hl 2 rfl) ?_
  refine lv_iconst (v := (nI 0)) hx hb dL_result_1 (by decide) ?_
  refine lv_aload_n hx hb dL_result_2 rfl (lv_at hl 0 rfl) ?_
  refine lv_iload_n hx hb dL_result_3 rfl (lv_at hl 1 rfl) ?_
  refine xcvC (As := [.int a1]) (rest := [.int (nI 0), .ref ou]) ⟨hx, hb, hml, hown, hts⟩ (mX7_result l lo D E h hlst Pr τ ad fa hR hW a1) (cwV 1 hts gL_result_X7_result rfl rfl rfl (by decide +kernel) ⟨Nat.le_of_ble_eq_true rfl, Nat.le_of_ble_eq_true rfl⟩) I hS hR.f0 rfl rfl hl.1 rfl (Nat.le_of_ble_eq_true rfl) dL_result_4 ⟨Nat.le_of_ble_eq_true rfl, Nat.le_of_ble_eq_true rfl⟩ (fun v9 hw H locs q9 I hS => ?_) (fun q9 En ce H locs hEn I hS hc1 hc2 hc3 => ?_)
  · skip
    obtain ⟨x9, e9, q1, q2⟩ := q9
    subst q1
    rw [q2] at I
    have hF2 : cF Pr h h := cF.rf
    have hR2 := hR
    have hW2 := hW
    refine W.eq (g2 := F0 m 7 ls [.long x9, .int (nI 0), .ref ou]) rfl ?_
    have ho2 : h ou = some (.inl (E 1, 1, .inr (.inl fo))) := (hF2 ou hou).trans ho
    refine xlast (i := 0) (n := 1) hx hb I hS ho2 (by decide) (by decide) dL_result_7 (fun H locs I hS => ?_)
    have hR3 := hR2.out (e := .inl (E 1, 1, .inr (.inl (vp_updL fo 0 x9)))) hou
    refine lv_goto (tgt := 14) hx hb dL_result_8 (by decide) ?_
    refine lv_iconst (v := (nI 0)) hx hb dL_result_14 (by decide) ?_
    exact W.widen (Nat.le_of_ble_eq_true rfl) (Nat.le_of_ble_eq_true rfl) (xriQ hx hb hr hlocks dL_result_15 I hS (Or.inr ⟨some x9, τ, (by rw [e9]; simp only [wL]), rfl, hW2, fun q hq hn => (hset_n hn).trans (hF2 q hq), ⟨ad, fa, hR3, rfl⟩, hset_s⟩))
  · skip
    have hG : (wL τ (fX7_result τ a1)) = .inl En := by rw [show (fX7_result τ a1) = .inl En from hEn]; rfl
    have hT := vx_table (x := yL_result) B (hts _ (List.mem_of_getElem? (i := 0) rfl))
    rcases hE En hG with rfl
    · skip
      refine vx_catch (name := "java/lang/IllegalArgumentException") hown [] ⟨0, 8, 11, 21⟩ [] hT (fun z hz => by simp at hz) (by decide +kernel) (by decide) (hts _ (List.mem_of_getElem? (i := 1) rfl)) (va_Nw.use rfl (hX.1 _ (by decide))) hc1 hc2 hc3 ?_
      refine lv_astore_n (lv' := [(3, .ref q9), (0, .ref (ad 0 0)), (1, .int a1), (2, .ref ou)]) hx hb dL_result_11 rfl hl (by decide) rfl (fun ls hl => ?_)
      refine lv_iconst (v := (nI 1)) hx hb dL_result_12 (by decide) ?_
      exact W.widen (Nat.le_of_ble_eq_true rfl) (Nat.le_of_ble_eq_true rfl) (xriQ hx hb hr hlocks dL_result_13 I hS (Or.inl ⟨_, _, hG, ⟨rfl, rfl⟩, rfl, rfl⟩))

set_option maxHeartbeats 4000000 in
set_option maxRecDepth 100000 in
theorem mL_isClosed (l : Launch) (lo : Nat) (D : va_G) (E : Nat → ClassId) (h : XW) (hlst : l.stackTraces = false) (Pr : Nat → Prop) (τ : CT) (ad : Nat → Nat → Nat) (fa : Nat → Nat → Option Nat) (hR : RC E Pr τ ad fa h) (hW : CW τ) (ou : Nat) (fo : Nat → Int64) (hou : Pr ou) (ho : h ou = some (.inl (E 1, 1, .inr (.inl fo)))) (a1 : Int32) (hE : ∀ En, (wZ τ (fX7_isClosed τ a1)) = .inl En → En = "java/lang/IllegalArgumentException") : Met l yL_isClosed wsL_isClosed ({ frames := 9, cells := 1, slots := 6, locals := 169 } : Room) (xPC lo D E h [.ref (ad 0 0), .int a1, .ref ou]) (xQ lo D (wQ E Pr h (ad 0 0) ou fo (wZ τ (fX7_isClosed τ a1)) ["java/lang/IllegalArgumentException"])) 1 6 (xA lo) := by
  refine xofWH (cc := cL_isClosed) (maxL := 4) (ret := (some .int)) (hh := [(0, 16, 19, 21)]) (by decide) rfl ?_
  intro p e s m args below meth c s₁ B hml hv
  obtain ⟨rfl, I, hX⟩ := hv
  have hx := B.exec
  have hb := B.bytes
  have hr := B.returns
  have hts := atoms_spec (ws := wsL_isClosed) B.pre
  have hown : s.vm.findClass RL = some m.cls := findClass_of_methodNamed B.named
  have hlocks := B.notSynchronized
  have hl := lv_entry ([.ref (ad 0 0), .int a1, .ref ou] : List Value) (n := 4) (Nat.le_of_ble_eq_true rfl)
  rw [lg_entry_eq]
  generalize (lg_sl ([.ref (ad 0 0), .int a1, .ref ou] : List Value) ++ List.replicate (4 - (lg_sl ([.ref (ad 0 0), .int a1, .ref ou] : List Value)).length) Slot.unset).toArray = ls at hl ⊢
  have hl : lv_has ls 4 [(0, .ref (ad 0 0)), (1, .int a1), (2, .ref ou)] := hl
  have hS : va_S (xA lo) s.heap s.heap [] := va_S.rf
  refine lv_aload_n hx hb dL_isClosed_0 rfl (lv_at hl 2 rfl) ?_
  refine lv_iconst (v := (nI 0)) hx hb dL_isClosed_1 (by decide) ?_
  refine lv_aload_n hx hb dL_isClosed_2 rfl (lv_at hl 0 rfl) ?_
  refine lv_iload_n hx hb dL_isClosed_3 rfl (lv_at hl 1 rfl) ?_
  refine xcvC (As := [.int a1]) (rest := [.int (nI 0), .ref ou]) ⟨hx, hb, hml, hown, hts⟩ (mX7_isClosed l lo D E h hlst Pr τ ad fa hR hW a1) (cwV 1 hts gL_isClosed_X7_isClosed rfl rfl rfl (by decide +kernel) ⟨Nat.le_of_ble_eq_true rfl, Nat.le_of_ble_eq_true rfl⟩) I hS hR.f0 rfl rfl hl.1 rfl (Nat.le_of_ble_eq_true rfl) dL_isClosed_4 ⟨Nat.le_of_ble_eq_true rfl, Nat.le_of_ble_eq_true rfl⟩ (fun v9 hw H locs q9 I hS => ?_) (fun q9 En ce H locs hEn I hS hc1 hc2 hc3 => ?_)
  · skip
    obtain ⟨x9, e9, q1, q2⟩ := q9
    subst q1
    rw [q2] at I
    have hF2 : cF Pr h h := cF.rf
    have hR2 := hR
    have hW2 := hW
    refine W.eq (g2 := F0 m 7 ls [.int x9, .int (nI 0), .ref ou]) rfl ?_
    refine lv_if_eq (tgt := 14) hx hb dL_isClosed_7 (by decide) (fun cz => ?_) (fun cz => ?_)
    · skip
      refine lv_lconst (v := (0 : Int64)) hx hb dL_isClosed_14 rfl ?_
      have ho2 : h ou = some (.inl (E 1, 1, .inr (.inl fo))) := (hF2 ou hou).trans ho
      refine xlast (i := 0) (n := 1) hx hb I hS ho2 (by decide) (by decide) dL_isClosed_15 (fun H locs I hS => ?_)
      have hR3 := hR2.out (e := .inl (E 1, 1, .inr (.inl (vp_updL fo 0 (0 : Int64))))) hou
      refine lv_goto (tgt := 22) hx hb dL_isClosed_16 (by decide) ?_
      refine lv_iconst (v := (nI 0)) hx hb dL_isClosed_22 (by decide) ?_
      exact W.widen (Nat.le_of_ble_eq_true rfl) (Nat.le_of_ble_eq_true rfl) (xriQ hx hb hr hlocks dL_isClosed_23 I hS (Or.inr ⟨some (0 : Int64), τ, (by rw [e9]; simp only [wZ]; rw [if_pos cz]), rfl, hW2, fun q hq hn => (hset_n hn).trans (hF2 q hq), ⟨ad, fa, hR3, rfl⟩, hset_s⟩))
    · skip
      refine lv_lconst (v := (1 : Int64)) hx hb dL_isClosed_10 rfl ?_
      refine lv_goto (tgt := 15) hx hb dL_isClosed_11 (by decide) ?_
      have ho2 : h ou = some (.inl (E 1, 1, .inr (.inl fo))) := (hF2 ou hou).trans ho
      refine xlast (i := 0) (n := 1) hx hb I hS ho2 (by decide) (by decide) dL_isClosed_15 (fun H locs I hS => ?_)
      have hR3 := hR2.out (e := .inl (E 1, 1, .inr (.inl (vp_updL fo 0 (1 : Int64))))) hou
      refine lv_goto (tgt := 22) hx hb dL_isClosed_16 (by decide) ?_
      refine lv_iconst (v := (nI 0)) hx hb dL_isClosed_22 (by decide) ?_
      exact W.widen (Nat.le_of_ble_eq_true rfl) (Nat.le_of_ble_eq_true rfl) (xriQ hx hb hr hlocks dL_isClosed_23 I hS (Or.inr ⟨some (1 : Int64), τ, (by rw [e9]; simp only [wZ]; rw [if_neg cz]), rfl, hW2, fun q hq hn => (hset_n hn).trans (hF2 q hq), ⟨ad, fa, hR3, rfl⟩, hset_s⟩))
  · skip
    have hG : (wZ τ (fX7_isClosed τ a1)) = .inl En := by rw [show (fX7_isClosed τ a1) = .inl En from hEn]; rfl
    have hT := vx_table (x := yL_isClosed) B (hts _ (List.mem_of_getElem? (i := 0) rfl))
    rcases hE En hG with rfl
    · skip
      refine vx_catch (name := "java/lang/IllegalArgumentException") hown [] ⟨0, 16, 19, 21⟩ [] hT (fun z hz => by simp at hz) (by decide +kernel) (by decide) (hts _ (List.mem_of_getElem? (i := 1) rfl)) (va_Nw.use rfl (hX.1 _ (by decide))) hc1 hc2 hc3 ?_
      refine lv_astore_n (lv' := [(3, .ref q9), (0, .ref (ad 0 0)), (1, .int a1), (2, .ref ou)]) hx hb dL_isClosed_19 rfl hl (by decide) rfl (fun ls hl => ?_)
      refine lv_iconst (v := (nI 1)) hx hb dL_isClosed_20 (by decide) ?_
      exact W.widen (Nat.le_of_ble_eq_true rfl) (Nat.le_of_ble_eq_true rfl) (xriQ hx hb hr hlocks dL_isClosed_21 I hS (Or.inl ⟨_, _, hG, ⟨rfl, rfl⟩, rfl, rfl⟩))

set_option maxHeartbeats 4000000 in
set_option maxRecDepth 100000 in
theorem mL_letter (l : Launch) (lo : Nat) (D : va_G) (E : Nat → ClassId) (h : XW) (hlst : l.stackTraces = false) (Pr : Nat → Prop) (τ : CT) (ad : Nat → Nat → Nat) (fa : Nat → Nat → Option Nat) (hR : RC E Pr τ ad fa h) (hW : CW τ) (ou : Nat) (fo : Nat → Int64) (hou : Pr ou) (ho : h ou = some (.inl (E 1, 1, .inr (.inl fo)))) (a1 : Int32) (a2 : Int32) (hE : ∀ En, (wIs (fX7_letter τ a1 a2)) = .inl En → En = "java/lang/IndexOutOfBoundsException" ∨ En = "java/lang/IllegalArgumentException" ∨ En = "java/lang/IllegalStateException") : Met l yL_letter wsL_letter ({ frames := 8, cells := 4, slots := 24, locals := 152 } : Room) (xPC lo D E h [.ref (ad 0 0), .int a1, .int a2, .ref ou]) (xQ lo D (wQ E Pr h (ad 0 0) ou fo (wIs (fX7_letter τ a1 a2)) ["java/lang/IndexOutOfBoundsException", "java/lang/IllegalArgumentException", "java/lang/IllegalStateException"])) 4 24 (xA lo) := by
  refine xofWH (cc := cL_letter) (maxL := 5) (ret := (some .int)) (hh := [(0, 10, 13, 19), (0, 10, 17, 21), (0, 10, 21, 13)]) (by decide) rfl ?_
  intro p e s m args below meth c s₁ B hml hv
  obtain ⟨rfl, I, hX⟩ := hv
  have hx := B.exec
  have hb := B.bytes
  have hr := B.returns
  have hts := atoms_spec (ws := wsL_letter) B.pre
  have hown : s.vm.findClass RL = some m.cls := findClass_of_methodNamed B.named
  have hlocks := B.notSynchronized
  have hl := lv_entry ([.ref (ad 0 0), .int a1, .int a2, .ref ou] : List Value) (n := 5) (Nat.le_of_ble_eq_true rfl)
  rw [lg_entry_eq]
  generalize (lg_sl ([.ref (ad 0 0), .int a1, .int a2, .ref ou] : List Value) ++ List.replicate (5 - (lg_sl ([.ref (ad 0 0), .int a1, .int a2, .ref ou] : List Value)).length) Slot.unset).toArray = ls at hl ⊢
  have hl : lv_has ls 5 [(0, .ref (ad 0 0)), (1, .int a1), (2, .int a2), (3, .ref ou)] := hl
  have hS : va_S (xA lo) s.heap s.heap [] := va_S.rf
  refine lv_aload_n hx hb dL_letter_0 rfl (lv_at hl 3 rfl) ?_
  refine lv_iconst (v := (nI 0)) hx hb dL_letter_1 (by decide) ?_
  refine lv_aload_n hx hb dL_letter_2 rfl (lv_at hl 0 rfl) ?_
  refine lv_iload_n hx hb dL_letter_3 rfl (lv_at hl 1 rfl) ?_
  refine lv_iload_n hx hb dL_letter_4 rfl (lv_at hl 2 rfl) ?_
  refine xcvC (As := [.int a1, .int a2]) (rest := [.int (nI 0), .ref ou]) ⟨hx, hb, hml, hown, hts⟩ (mX7_letter l lo D E h hlst Pr τ ad fa hR hW a1 a2) (cwV 2 hts gL_letter_X7_letter rfl rfl rfl (by decide +kernel) ⟨Nat.le_of_ble_eq_true rfl, Nat.le_of_ble_eq_true rfl⟩) I hS hR.f0 rfl rfl hl.1 rfl (Nat.le_of_ble_eq_true rfl) dL_letter_5 ⟨Nat.le_of_ble_eq_true rfl, Nat.le_of_ble_eq_true rfl⟩ (fun v9 hw H locs q9 I hS => ?_) (fun q9 En ce H locs hEn I hS hc1 hc2 hc3 => ?_)
  · skip
    obtain ⟨x9, e9, q1, hR2, hF2, hW2⟩ := q9
    subst q1
    refine W.eq (g2 := F0 m 8 ls [.int x9.1, .int (nI 0), .ref ou]) rfl ?_
    refine lv_i2l (v := x9.1.toInt64) hx hb dL_letter_8 rfl ?_
    have ho2 : hw ou = some (.inl (E 1, 1, .inr (.inl fo))) := (hF2 ou hou).trans ho
    refine xlast (i := 0) (n := 1) hx hb I hS ho2 (by decide) (by decide) dL_letter_9 (fun H locs I hS => ?_)
    have hR3 := hR2.out (e := .inl (E 1, 1, .inr (.inl (vp_updL fo 0 x9.1.toInt64)))) hou
    refine lv_goto (tgt := 25) hx hb dL_letter_10 (by decide) ?_
    refine lv_iconst (v := (nI 0)) hx hb dL_letter_25 (by decide) ?_
    exact W.widen (Nat.le_of_ble_eq_true rfl) (Nat.le_of_ble_eq_true rfl) (xriQ hx hb hr hlocks dL_letter_26 I hS (Or.inr ⟨some x9.1.toInt64, x9.2, (by rw [e9]; simp only [wIs]), rfl, hW2, fun q hq hn => (hset_n hn).trans (hF2 q hq), ⟨ad, fa, hR3, rfl⟩, hset_s⟩))
  · skip
    have hG : (wIs (fX7_letter τ a1 a2)) = .inl En := by rw [show (fX7_letter τ a1 a2) = .inl En from hEn]; rfl
    have hT := vx_table (x := yL_letter) B (hts _ (List.mem_of_getElem? (i := 0) rfl))
    rcases hE En hG with rfl | rfl | rfl
    · skip
      refine vx_catch (name := "java/lang/IndexOutOfBoundsException") hown [] ⟨0, 10, 13, 19⟩ [⟨0, 10, 17, 21⟩, ⟨0, 10, 21, 13⟩] hT (fun z hz => by simp at hz) (by decide +kernel) (by decide) (hts _ (List.mem_of_getElem? (i := 1) rfl)) (va_Nw.use rfl (hX.1 _ (by decide))) hc1 hc2 hc3 ?_
      refine lv_astore (lv' := [(4, .ref q9), (0, .ref (ad 0 0)), (1, .int a1), (2, .int a2), (3, .ref ou)]) hx hb dL_letter_13 hl (by decide) rfl (fun ls hl => ?_)
      refine lv_iconst (v := (nI 1)) hx hb dL_letter_15 (by decide) ?_
      exact W.widen (Nat.le_of_ble_eq_true rfl) (Nat.le_of_ble_eq_true rfl) (xriQ hx hb hr hlocks dL_letter_16 I hS (Or.inl ⟨_, _, hG, Or.inl ⟨rfl, rfl⟩, rfl, rfl⟩))
    · skip
      refine vx_catch (name := "java/lang/IllegalArgumentException") hown [⟨0, 10, 13, 19⟩] ⟨0, 10, 17, 21⟩ [⟨0, 10, 21, 13⟩] hT (fun z hz => by
          rcases List.mem_singleton.mp hz with rfl
          exact Or.inr ⟨(by decide), "java/lang/IndexOutOfBoundsException", hts _ (List.mem_of_getElem? (i := 1) rfl), hX.2 _ (by decide) _ (by decide) (by decide)⟩) (by decide +kernel) (by decide) (hts _ (List.mem_of_getElem? (i := 2) rfl)) (va_Nw.use rfl (hX.1 _ (by decide))) hc1 hc2 hc3 ?_
      refine lv_astore (lv' := [(4, .ref q9), (0, .ref (ad 0 0)), (1, .int a1), (2, .int a2), (3, .ref ou)]) hx hb dL_letter_17 hl (by decide) rfl (fun ls hl => ?_)
      refine lv_iconst (v := (nI 2)) hx hb dL_letter_19 (by decide) ?_
      exact W.widen (Nat.le_of_ble_eq_true rfl) (Nat.le_of_ble_eq_true rfl) (xriQ hx hb hr hlocks dL_letter_20 I hS (Or.inl ⟨_, _, hG, Or.inr (Or.inl ⟨rfl, rfl⟩), rfl, rfl⟩))
    · skip
      refine vx_catch (name := "java/lang/IllegalStateException") hown [⟨0, 10, 13, 19⟩, ⟨0, 10, 17, 21⟩] ⟨0, 10, 21, 13⟩ [] hT (fun z hz => by
          rcases List.mem_cons.mp hz with rfl | hz
          · exact Or.inr ⟨(by decide), "java/lang/IndexOutOfBoundsException", hts _ (List.mem_of_getElem? (i := 1) rfl), hX.2 _ (by decide) _ (by decide) (by decide)⟩
          · rcases List.mem_singleton.mp hz with rfl
            exact Or.inr ⟨(by decide), "java/lang/IllegalArgumentException", hts _ (List.mem_of_getElem? (i := 2) rfl), hX.2 _ (by decide) _ (by decide) (by decide)⟩) (by decide +kernel) (by decide) (hts _ (List.mem_of_getElem? (i := 3) rfl)) (va_Nw.use rfl (hX.1 _ (by decide))) hc1 hc2 hc3 ?_
      refine lv_astore (lv' := [(4, .ref q9), (0, .ref (ad 0 0)), (1, .int a1), (2, .int a2), (3, .ref ou)]) hx hb dL_letter_21 hl (by decide) rfl (fun ls hl => ?_)
      refine lv_iconst (v := (nI 3)) hx hb dL_letter_23 (by decide) ?_
      exact W.widen (Nat.le_of_ble_eq_true rfl) (Nat.le_of_ble_eq_true rfl) (xriQ hx hb hr hlocks dL_letter_24 I hS (Or.inl ⟨_, _, hG, Or.inr (Or.inr ⟨rfl, rfl⟩), rfl, rfl⟩))

set_option maxHeartbeats 4000000 in
set_option maxRecDepth 100000 in
theorem mL_arrest (l : Launch) (lo : Nat) (D : va_G) (E : Nat → ClassId) (h : XW) (hlst : l.stackTraces = false) (Pr : Nat → Prop) (τ : CT) (ad : Nat → Nat → Nat) (fa : Nat → Nat → Option Nat) (hR : RC E Pr τ ad fa h) (hW : CW τ) (ou : Nat) (fo : Nat → Int64) (hou : Pr ou) (ho : h ou = some (.inl (E 1, 1, .inr (.inl fo)))) (a1 : Int32) (a2 : Int32) (hE : ∀ En, (wZs (fX7_arrest τ a1 a2)) = .inl En → En = "java/lang/IndexOutOfBoundsException" ∨ En = "java/lang/IllegalStateException") : Met l yL_arrest wsL_arrest ({ frames := 8, cells := 3, slots := 18, locals := 152 } : Room) (xPC lo D E h [.ref (ad 0 0), .int a1, .int a2, .ref ou]) (xQ lo D (wQ E Pr h (ad 0 0) ou fo (wZs (fX7_arrest τ a1 a2)) ["java/lang/IndexOutOfBoundsException", "java/lang/IllegalStateException"])) 3 18 (xA lo) := by
  refine xofWH (cc := cL_arrest) (maxL := 5) (ret := (some .int)) (hh := [(0, 17, 20, 19), (0, 17, 24, 13)]) (by decide) rfl ?_
  intro p e s m args below meth c s₁ B hml hv
  obtain ⟨rfl, I, hX⟩ := hv
  have hx := B.exec
  have hb := B.bytes
  have hr := B.returns
  have hts := atoms_spec (ws := wsL_arrest) B.pre
  have hown : s.vm.findClass RL = some m.cls := findClass_of_methodNamed B.named
  have hlocks := B.notSynchronized
  have hl := lv_entry ([.ref (ad 0 0), .int a1, .int a2, .ref ou] : List Value) (n := 5) (Nat.le_of_ble_eq_true rfl)
  rw [lg_entry_eq]
  generalize (lg_sl ([.ref (ad 0 0), .int a1, .int a2, .ref ou] : List Value) ++ List.replicate (5 - (lg_sl ([.ref (ad 0 0), .int a1, .int a2, .ref ou] : List Value)).length) Slot.unset).toArray = ls at hl ⊢
  have hl : lv_has ls 5 [(0, .ref (ad 0 0)), (1, .int a1), (2, .int a2), (3, .ref ou)] := hl
  have hS : va_S (xA lo) s.heap s.heap [] := va_S.rf
  refine lv_aload_n hx hb dL_arrest_0 rfl (lv_at hl 3 rfl) ?_
  refine lv_iconst (v := (nI 0)) hx hb dL_arrest_1 (by decide) ?_
  refine lv_aload_n hx hb dL_arrest_2 rfl (lv_at hl 0 rfl) ?_
  refine lv_iload_n hx hb dL_arrest_3 rfl (lv_at hl 1 rfl) ?_
  refine lv_iload_n hx hb dL_arrest_4 rfl (lv_at hl 2 rfl) ?_
  refine xcvC (As := [.int a1, .int a2]) (rest := [.int (nI 0), .ref ou]) ⟨hx, hb, hml, hown, hts⟩ (mX7_arrest l lo D E h hlst Pr τ ad fa hR hW a1 a2) (cwV 2 hts gL_arrest_X7_arrest rfl rfl rfl (by decide +kernel) ⟨Nat.le_of_ble_eq_true rfl, Nat.le_of_ble_eq_true rfl⟩) I hS hR.f0 rfl rfl hl.1 rfl (Nat.le_of_ble_eq_true rfl) dL_arrest_5 ⟨Nat.le_of_ble_eq_true rfl, Nat.le_of_ble_eq_true rfl⟩ (fun v9 hw H locs q9 I hS => ?_) (fun q9 En ce H locs hEn I hS hc1 hc2 hc3 => ?_)
  · skip
    obtain ⟨x9, e9, q1, hR2, hF2, hW2⟩ := q9
    subst q1
    refine W.eq (g2 := F0 m 8 ls [.int x9.1, .int (nI 0), .ref ou]) rfl ?_
    refine lv_if_eq (tgt := 15) hx hb dL_arrest_8 (by decide) (fun cz => ?_) (fun cz => ?_)
    · skip
      refine lv_lconst (v := (0 : Int64)) hx hb dL_arrest_15 rfl ?_
      have ho2 : hw ou = some (.inl (E 1, 1, .inr (.inl fo))) := (hF2 ou hou).trans ho
      refine xlast (i := 0) (n := 1) hx hb I hS ho2 (by decide) (by decide) dL_arrest_16 (fun H locs I hS => ?_)
      have hR3 := hR2.out (e := .inl (E 1, 1, .inr (.inl (vp_updL fo 0 (0 : Int64))))) hou
      refine lv_goto (tgt := 28) hx hb dL_arrest_17 (by decide) ?_
      refine lv_iconst (v := (nI 0)) hx hb dL_arrest_28 (by decide) ?_
      exact W.widen (Nat.le_of_ble_eq_true rfl) (Nat.le_of_ble_eq_true rfl) (xriQ hx hb hr hlocks dL_arrest_29 I hS (Or.inr ⟨some (0 : Int64), x9.2, (by rw [e9]; simp only [wZs]; rw [if_pos cz]), rfl, hW2, fun q hq hn => (hset_n hn).trans (hF2 q hq), ⟨ad, fa, hR3, rfl⟩, hset_s⟩))
    · skip
      refine lv_lconst (v := (1 : Int64)) hx hb dL_arrest_11 rfl ?_
      refine lv_goto (tgt := 16) hx hb dL_arrest_12 (by decide) ?_
      have ho2 : hw ou = some (.inl (E 1, 1, .inr (.inl fo))) := (hF2 ou hou).trans ho
      refine xlast (i := 0) (n := 1) hx hb I hS ho2 (by decide) (by decide) dL_arrest_16 (fun H locs I hS => ?_)
      have hR3 := hR2.out (e := .inl (E 1, 1, .inr (.inl (vp_updL fo 0 (1 : Int64))))) hou
      refine lv_goto (tgt := 28) hx hb dL_arrest_17 (by decide) ?_
      refine lv_iconst (v := (nI 0)) hx hb dL_arrest_28 (by decide) ?_
      exact W.widen (Nat.le_of_ble_eq_true rfl) (Nat.le_of_ble_eq_true rfl) (xriQ hx hb hr hlocks dL_arrest_29 I hS (Or.inr ⟨some (1 : Int64), x9.2, (by rw [e9]; simp only [wZs]; rw [if_neg cz]), rfl, hW2, fun q hq hn => (hset_n hn).trans (hF2 q hq), ⟨ad, fa, hR3, rfl⟩, hset_s⟩))
  · skip
    have hG : (wZs (fX7_arrest τ a1 a2)) = .inl En := by rw [show (fX7_arrest τ a1 a2) = .inl En from hEn]; rfl
    have hT := vx_table (x := yL_arrest) B (hts _ (List.mem_of_getElem? (i := 0) rfl))
    rcases hE En hG with rfl | rfl
    · skip
      refine vx_catch (name := "java/lang/IndexOutOfBoundsException") hown [] ⟨0, 17, 20, 19⟩ [⟨0, 17, 24, 13⟩] hT (fun z hz => by simp at hz) (by decide +kernel) (by decide) (hts _ (List.mem_of_getElem? (i := 1) rfl)) (va_Nw.use rfl (hX.1 _ (by decide))) hc1 hc2 hc3 ?_
      refine lv_astore (lv' := [(4, .ref q9), (0, .ref (ad 0 0)), (1, .int a1), (2, .int a2), (3, .ref ou)]) hx hb dL_arrest_20 hl (by decide) rfl (fun ls hl => ?_)
      refine lv_iconst (v := (nI 1)) hx hb dL_arrest_22 (by decide) ?_
      exact W.widen (Nat.le_of_ble_eq_true rfl) (Nat.le_of_ble_eq_true rfl) (xriQ hx hb hr hlocks dL_arrest_23 I hS (Or.inl ⟨_, _, hG, Or.inl ⟨rfl, rfl⟩, rfl, rfl⟩))
    · skip
      refine vx_catch (name := "java/lang/IllegalStateException") hown [⟨0, 17, 20, 19⟩] ⟨0, 17, 24, 13⟩ [] hT (fun z hz => by
          rcases List.mem_singleton.mp hz with rfl
          exact Or.inr ⟨(by decide), "java/lang/IndexOutOfBoundsException", hts _ (List.mem_of_getElem? (i := 1) rfl), hX.2 _ (by decide) _ (by decide) (by decide)⟩) (by decide +kernel) (by decide) (hts _ (List.mem_of_getElem? (i := 2) rfl)) (va_Nw.use rfl (hX.1 _ (by decide))) hc1 hc2 hc3 ?_
      refine lv_astore (lv' := [(4, .ref q9), (0, .ref (ad 0 0)), (1, .int a1), (2, .int a2), (3, .ref ou)]) hx hb dL_arrest_24 hl (by decide) rfl (fun ls hl => ?_)
      refine lv_iconst (v := (nI 2)) hx hb dL_arrest_26 (by decide) ?_
      exact W.widen (Nat.le_of_ble_eq_true rfl) (Nat.le_of_ble_eq_true rfl) (xriQ hx hb hr hlocks dL_arrest_27 I hS (Or.inl ⟨_, _, hG, Or.inr ⟨rfl, rfl⟩, rfl, rfl⟩))

set_option maxHeartbeats 4000000 in
set_option maxRecDepth 100000 in
theorem mL_isArrested (l : Launch) (lo : Nat) (D : va_G) (E : Nat → ClassId) (h : XW) (hlst : l.stackTraces = false) (Pr : Nat → Prop) (τ : CT) (ad : Nat → Nat → Nat) (fa : Nat → Nat → Option Nat) (hR : RC E Pr τ ad fa h) (hW : CW τ) (ou : Nat) (fo : Nat → Int64) (hou : Pr ou) (ho : h ou = some (.inl (E 1, 1, .inr (.inl fo)))) (a1 : Int32) (hE : ∀ En, (wZ τ (fX7_isArrested τ a1)) = .inl En → En = "java/lang/IndexOutOfBoundsException") : Met l yL_isArrested wsL_isArrested ({ frames := 8, cells := 1, slots := 6, locals := 148 } : Room) (xPC lo D E h [.ref (ad 0 0), .int a1, .ref ou]) (xQ lo D (wQ E Pr h (ad 0 0) ou fo (wZ τ (fX7_isArrested τ a1)) ["java/lang/IndexOutOfBoundsException"])) 1 6 (xA lo) := by
  refine xofWH (cc := cL_isArrested) (maxL := 4) (ret := (some .int)) (hh := [(0, 16, 19, 19)]) (by decide) rfl ?_
  intro p e s m args below meth c s₁ B hml hv
  obtain ⟨rfl, I, hX⟩ := hv
  have hx := B.exec
  have hb := B.bytes
  have hr := B.returns
  have hts := atoms_spec (ws := wsL_isArrested) B.pre
  have hown : s.vm.findClass RL = some m.cls := findClass_of_methodNamed B.named
  have hlocks := B.notSynchronized
  have hl := lv_entry ([.ref (ad 0 0), .int a1, .ref ou] : List Value) (n := 4) (Nat.le_of_ble_eq_true rfl)
  rw [lg_entry_eq]
  generalize (lg_sl ([.ref (ad 0 0), .int a1, .ref ou] : List Value) ++ List.replicate (4 - (lg_sl ([.ref (ad 0 0), .int a1, .ref ou] : List Value)).length) Slot.unset).toArray = ls at hl ⊢
  have hl : lv_has ls 4 [(0, .ref (ad 0 0)), (1, .int a1), (2, .ref ou)] := hl
  have hS : va_S (xA lo) s.heap s.heap [] := va_S.rf
  refine lv_aload_n hx hb dL_isArrested_0 rfl (lv_at hl 2 rfl) ?_
  refine lv_iconst (v := (nI 0)) hx hb dL_isArrested_1 (by decide) ?_
  refine lv_aload_n hx hb dL_isArrested_2 rfl (lv_at hl 0 rfl) ?_
  refine lv_iload_n hx hb dL_isArrested_3 rfl (lv_at hl 1 rfl) ?_
  refine xcvC (As := [.int a1]) (rest := [.int (nI 0), .ref ou]) ⟨hx, hb, hml, hown, hts⟩ (mX7_isArrested l lo D E h hlst Pr τ ad fa hR hW a1) (cwV 1 hts gL_isArrested_X7_isArrested rfl rfl rfl (by decide +kernel) ⟨Nat.le_of_ble_eq_true rfl, Nat.le_of_ble_eq_true rfl⟩) I hS hR.f0 rfl rfl hl.1 rfl (Nat.le_of_ble_eq_true rfl) dL_isArrested_4 ⟨Nat.le_of_ble_eq_true rfl, Nat.le_of_ble_eq_true rfl⟩ (fun v9 hw H locs q9 I hS => ?_) (fun q9 En ce H locs hEn I hS hc1 hc2 hc3 => ?_)
  · skip
    obtain ⟨x9, e9, q1, q2⟩ := q9
    subst q1
    rw [q2] at I
    have hF2 : cF Pr h h := cF.rf
    have hR2 := hR
    have hW2 := hW
    refine W.eq (g2 := F0 m 7 ls [.int x9, .int (nI 0), .ref ou]) rfl ?_
    refine lv_if_eq (tgt := 14) hx hb dL_isArrested_7 (by decide) (fun cz => ?_) (fun cz => ?_)
    · skip
      refine lv_lconst (v := (0 : Int64)) hx hb dL_isArrested_14 rfl ?_
      have ho2 : h ou = some (.inl (E 1, 1, .inr (.inl fo))) := (hF2 ou hou).trans ho
      refine xlast (i := 0) (n := 1) hx hb I hS ho2 (by decide) (by decide) dL_isArrested_15 (fun H locs I hS => ?_)
      have hR3 := hR2.out (e := .inl (E 1, 1, .inr (.inl (vp_updL fo 0 (0 : Int64))))) hou
      refine lv_goto (tgt := 22) hx hb dL_isArrested_16 (by decide) ?_
      refine lv_iconst (v := (nI 0)) hx hb dL_isArrested_22 (by decide) ?_
      exact W.widen (Nat.le_of_ble_eq_true rfl) (Nat.le_of_ble_eq_true rfl) (xriQ hx hb hr hlocks dL_isArrested_23 I hS (Or.inr ⟨some (0 : Int64), τ, (by rw [e9]; simp only [wZ]; rw [if_pos cz]), rfl, hW2, fun q hq hn => (hset_n hn).trans (hF2 q hq), ⟨ad, fa, hR3, rfl⟩, hset_s⟩))
    · skip
      refine lv_lconst (v := (1 : Int64)) hx hb dL_isArrested_10 rfl ?_
      refine lv_goto (tgt := 15) hx hb dL_isArrested_11 (by decide) ?_
      have ho2 : h ou = some (.inl (E 1, 1, .inr (.inl fo))) := (hF2 ou hou).trans ho
      refine xlast (i := 0) (n := 1) hx hb I hS ho2 (by decide) (by decide) dL_isArrested_15 (fun H locs I hS => ?_)
      have hR3 := hR2.out (e := .inl (E 1, 1, .inr (.inl (vp_updL fo 0 (1 : Int64))))) hou
      refine lv_goto (tgt := 22) hx hb dL_isArrested_16 (by decide) ?_
      refine lv_iconst (v := (nI 0)) hx hb dL_isArrested_22 (by decide) ?_
      exact W.widen (Nat.le_of_ble_eq_true rfl) (Nat.le_of_ble_eq_true rfl) (xriQ hx hb hr hlocks dL_isArrested_23 I hS (Or.inr ⟨some (1 : Int64), τ, (by rw [e9]; simp only [wZ]; rw [if_neg cz]), rfl, hW2, fun q hq hn => (hset_n hn).trans (hF2 q hq), ⟨ad, fa, hR3, rfl⟩, hset_s⟩))
  · skip
    have hG : (wZ τ (fX7_isArrested τ a1)) = .inl En := by rw [show (fX7_isArrested τ a1) = .inl En from hEn]; rfl
    have hT := vx_table (x := yL_isArrested) B (hts _ (List.mem_of_getElem? (i := 0) rfl))
    rcases hE En hG with rfl
    · skip
      refine vx_catch (name := "java/lang/IndexOutOfBoundsException") hown [] ⟨0, 16, 19, 19⟩ [] hT (fun z hz => by simp at hz) (by decide +kernel) (by decide) (hts _ (List.mem_of_getElem? (i := 1) rfl)) (va_Nw.use rfl (hX.1 _ (by decide))) hc1 hc2 hc3 ?_
      refine lv_astore_n (lv' := [(3, .ref q9), (0, .ref (ad 0 0)), (1, .int a1), (2, .ref ou)]) hx hb dL_isArrested_19 rfl hl (by decide) rfl (fun ls hl => ?_)
      refine lv_iconst (v := (nI 1)) hx hb dL_isArrested_20 (by decide) ?_
      exact W.widen (Nat.le_of_ble_eq_true rfl) (Nat.le_of_ble_eq_true rfl) (xriQ hx hb hr hlocks dL_isArrested_21 I hS (Or.inl ⟨_, _, hG, ⟨rfl, rfl⟩, rfl, rfl⟩))
