/-! the law's calls that are caught: tried, closed; and entered, which is called in tried -/
def XCb (U : State) : Prop := va_Nw (.castable "java/lang/IllegalStateException" "java/lang/IllegalStateException") U
theorem XCb.warm {s U : State} (hW : s.WarmedH U.vm) (h : XCb s) : XCb U := va_Nw.warmC hW h
theorem XCb.same {s U : State} (hv : U.vm = s.vm) (h : XCb s) : XCb U := va_Nw.same rfl hv.symm h
def xPB (lo : Nat) (D : va_G) (E : Nat → ClassId) (h : XW) (as : List Value) : Array Value → State → Prop := va_Pc as (fun U => XI lo D E h U U.heap ∧ XCb U)
theorem xPB_blind {lo : Nat} {D : va_G} {E : Nat → ClassId} {h : XW} {as : List Value} : FrameBlind (xPB lo D E h as) := fun a U g mk ⟨h1, h2, h3⟩ => ⟨h1, XI.same (s := U) rfl h2, XCb.same (s := U) rfl h3⟩
section XWB
variable {p : Program} {l : Launch} {e : Env} {R : Room} {s : State} {m : MethodId} {args : Array Value} {below : List Frame} {meth : Method} {c : Code} {H : Heap} {locs : List Loc} {cells slots : Nat} {Q : State → Prop}
variable {cc : ByteArray} {pc : Nat} {ls : Array Slot} {rest st0 : List Value} {D : va_G} {E : Nat → ClassId} {h : XW} {lo : Nat} {H0 : Heap} {Ts : List Cond} {post : Option Value → XW → Prop}
theorem xcsB {y : MethodName} {bytes : ByteArray} {maxL nL na index mc ms : Nat} {ret : Option FieldType} {hh : List (Nat × Nat × Nat × Nat)} {ws : List Cond} {rm : Room} {own : String} {As : List Value} (S : CallFix p m c cc nL s args Ts own) (hM : Met l y ws rm (xPB lo D E h As) (xQ lo D post) mc ms (xA lo)) (cw : vx_CSW R s args own index y bytes maxL ret hh ws rm mc ms na) (I : XI lo D E h s H) (hX : XCb s) (hS : va_S (xA lo) H0 H locs) (hn : As.length = na) (hsize : ls.size = nL) (hst : st0 = As.reverse ++ rest) (hW : (rest.map fun v => v.category).sum ≤ 8) (hdg : decode cc pc = .ok (.invokestatic index, 3)) (hf : cells + mc ≤ R.cells ∧ slots + ms ≤ R.slots)
    (kk : ∀ (v : Option Value) (h2 : XW) (H1 : Heap) (locs1 : List Loc), post v h2 → XI lo D E h2 s H1 → va_S (xA lo) H0 H1 locs1 → W p l e R s m args below meth c H1 locs1 (cells + mc) (slots + ms) Q (F0 m (pc + 3) ls (v.toList ++ rest))) : W p l e R s m args below meth c H locs cells slots Q (F0 m pc ls st0) :=
  xcQ (vx_runSW (As := As) (rest := rest) S hM cw ⟨xPB_blind, fun U hU hW => ⟨rfl, by show XI lo D E h U U.heap; rw [hU]; exact XI.warm hW I, XCb.warm hW hX⟩⟩ rfl hn hsize hst (lv_room hW) hdg hf) I hS kk
end XWB
def trG {α : Type} (τ : CT) (d : α) (r : String ⊕ (α × CT)) : String ⊕ (α × CT) := match r with
  | .inl En => if En = "java/lang/IllegalStateException" then .inr (d, τ) else .inl En
  | .inr x => .inr x
def fL_tried0 (τ : CT) (a b : Int32) : String ⊕ (Int32 × CT) := trG τ (-9) (fX7_release τ a b)
def fL_tried1 (τ : CT) (a b : Int32) : String ⊕ (Int32 × CT) := trG τ (-9) (fX7_stop τ a b)
def fL_entered (τ : CT) (a : Int32) : String ⊕ (Int32 × CT) := match fX7_enter τ a with
  | .inl En => .inl En
  | .inr x => .inr (nI 0, x)
def fL_tried2 (τ : CT) (a : Int32) : String ⊕ (Int32 × CT) := trG τ (-9) (fL_entered τ a)
def fL_tried3 (τ : CT) (a : Int32) : String ⊕ (Int32 × CT) := trG τ (-9) (fX7_leave τ a)
def fL_closed (τ : CT) (y : Int32) : String ⊕ (Int64 × CT) := trG τ (-1) (fX7_close τ y)
theorem trG_inl {α : Type} {τ : CT} {d : α} {r : String ⊕ (α × CT)} {En : String} (h : r = .inl En) (hx : ∃ x, trG τ d r = .inr x) : En = "java/lang/IllegalStateException" ∧ trG τ d r = .inr (d, τ) := by
  subst h
  obtain ⟨x, hx⟩ := hx
  have hx : (if En = "java/lang/IllegalStateException" then (.inr (d, τ) : String ⊕ (α × CT)) else .inl En) = .inr x := hx
  by_cases h9 : En = "java/lang/IllegalStateException"
  · exact ⟨h9, if_pos h9⟩
  · rw [if_neg h9] at hx; cases hx
def trP (E : Nat → ClassId) (Pr : Nat → Prop) (h : XW) (x0 : Nat) {α : Type} (vv : α → Value) (r : String ⊕ (α × CT)) : Option Value → XW → Prop := fun v h' =>
  ∃ x, r = .inr x ∧ v = some (vv x.1) ∧ ∃ (ad' : Nat → Nat → Nat) (fa' : Nat → Nat → Option Nat), RC E Pr x.2 ad' fa' h' ∧ cF Pr h h' ∧ CW x.2 ∧ ad' 0 0 = x0
set_option maxHeartbeats 4000000 in
set_option maxRecDepth 100000 in
theorem mL_entered (l : Launch) (lo : Nat) (D : va_G) (E : Nat → ClassId) (h : XW) (hlst : l.stackTraces = false) (Pr : Nat → Prop) (τ : CT) (ad : Nat → Nat → Nat) (fa : Nat → Nat → Option Nat) (hR : RC E Pr τ ad fa h) (hW : CW τ) (a : Int32) : vx_Met l yL_entered wsL_entered ({ frames := 8, cells := 2, slots := 12, locals := 140 } : Room) (xP lo D E h [.ref (ad 0 0), .int a]) (xQ lo D (fun v h' => ∃ x, fX7_enter τ a = .inr x ∧ v = some (.int (nI 0)) ∧ ∃ (ad' : Nat → Nat → Nat) (fa' : Nat → Nat → Option Nat), RC E Pr x ad' fa' h' ∧ cF Pr h h' ∧ CW x ∧ ad' 0 0 = ad 0 0)) (xXp lo D h (fun En => fX7_enter τ a = .inl En)) 2 12 (xA lo) := by
  refine vx_ofW (cc := cL_entered) (maxL := 2) (ret := (some .int)) (by decide) rfl ?_
  intro p e s m args below meth c s₁ B hml hout hv
  obtain ⟨rfl, I⟩ := hv
  have hx := B.exec
  have hb := B.bytes
  have hr := B.returns
  have hts := atoms_spec (ws := wsL_entered) B.pre
  have hown : s.vm.findClass RL = some m.cls := findClass_of_methodNamed B.named
  have hlocks := B.notSynchronized
  have hl := lv_entry ([.ref (ad 0 0), .int a] : List Value) (n := 2) (Nat.le_of_ble_eq_true rfl)
  rw [lg_entry_eq]
  generalize (lg_sl ([.ref (ad 0 0), .int a] : List Value) ++ List.replicate (2 - (lg_sl ([.ref (ad 0 0), .int a] : List Value)).length) Slot.unset).toArray = ls at hl ⊢
  have hl : lv_has ls 2 [(0, .ref (ad 0 0)), (1, .int a)] := hl
  have hS : va_S (xA lo) s.heap s.heap [] := va_S.rf
  refine lv_aload_n hx hb dL_entered_0 rfl (lv_at hl 0 rfl) ?_
  refine lv_iload_n hx hb dL_entered_1 rfl (lv_at hl 1 rfl) ?_
  refine xcvX (As := [.int a]) (rest := []) ⟨hx, hb, hml, hown, hts⟩ (mX7_enter l lo D E h hlst Pr τ ad fa hR hW a) (cwV 1 hts gL_entered_X7_enter rfl rfl rfl (by decide +kernel) ⟨Nat.le_of_ble_eq_true rfl, Nat.le_of_ble_eq_true rfl⟩) I hS hR.f0 rfl rfl hl.1 rfl (Nat.le_of_ble_eq_true rfl) dL_entered_2 ⟨Nat.le_of_ble_eq_true rfl, Nat.le_of_ble_eq_true rfl⟩ hout hlocks (fun En q => q) ⟨Nat.le_of_ble_eq_true rfl, Nat.le_of_ble_eq_true rfl⟩ (fun v9 hw H locs q9 I hS => ?_)
  obtain ⟨x9, e9, ad2, fa2, q1, hR2, hF2, hW2, h00⟩ := q9
  subst q1
  refine W.eq (g2 := F0 m 5 ls []) rfl ?_
  refine lv_iconst (v := nI 0) hx hb dL_entered_5 (by decide) ?_
  exact xriX hx hb hr hlocks dL_entered_6 I hS ⟨x9, e9, rfl, ad2, fa2, hR2, hF2, hW2, h00⟩ (Nat.le_of_ble_eq_true rfl) (Nat.le_of_ble_eq_true rfl)
set_option maxHeartbeats 4000000 in
set_option maxRecDepth 100000 in
theorem mL_tried0 (l : Launch) (lo : Nat) (D : va_G) (E : Nat → ClassId) (h : XW) (hlst : l.stackTraces = false) (Pr : Nat → Prop) (τ : CT) (ad : Nat → Nat → Nat) (fa : Nat → Nat → Option Nat) (hR : RC E Pr τ ad fa h) (hW : CW τ) (a : Int32) (b : Int32) (hok : ∃ x, fL_tried0 τ a b = .inr x) : Met l yL_tried wsL_tried ({ frames := 9, cells := 3, slots := 18, locals := 200 } : Room) (xPB lo D E h [.ref (ad 0 0), .int (nI 0), .int a, .int b]) (xQ lo D (trP E Pr h (ad 0 0) Value.int (fL_tried0 τ a b))) 3 18 (xA lo) := by
  refine xofWH (cc := cL_tried) (maxL := 5) (ret := (some .int)) (hh := [(0, 45, 46, 36)]) (by decide) rfl ?_
  intro p e s m args below meth c s₁ B hml hv
  obtain ⟨rfl, I, hX⟩ := hv
  have hx := B.exec
  have hb := B.bytes
  have hr := B.returns
  have hts := atoms_spec (ws := wsL_tried) B.pre
  have hown : s.vm.findClass RL = some m.cls := findClass_of_methodNamed B.named
  have hlocks := B.notSynchronized
  have hl := lv_entry ([.ref (ad 0 0), .int (nI 0), .int a, .int b] : List Value) (n := 5) (Nat.le_of_ble_eq_true rfl)
  rw [lg_entry_eq]
  generalize (lg_sl ([.ref (ad 0 0), .int (nI 0), .int a, .int b] : List Value) ++ List.replicate (5 - (lg_sl ([.ref (ad 0 0), .int (nI 0), .int a, .int b] : List Value)).length) Slot.unset).toArray = ls at hl ⊢
  have hl : lv_has ls 5 [(0, .ref (ad 0 0)), (1, .int (nI 0)), (2, .int a), (3, .int b)] := hl
  have hS : va_S (xA lo) s.heap s.heap [] := va_S.rf
  refine lv_iload_n hx hb dL_tried_0 rfl (lv_at hl 1 rfl) ?_
  refine lv_if_ne (tgt := 13) hx hb dL_tried_1 (by decide) (fun q => absurd (by decide) q) (fun _ => ?_)
  refine lv_aload_n hx hb dL_tried_4 rfl (lv_at hl 0 rfl) ?_
  refine lv_iload_n hx hb dL_tried_5 rfl (lv_at hl 2 rfl) ?_
  refine lv_iload_n hx hb dL_tried_6 rfl (lv_at hl 3 rfl) ?_
  refine xcvC (As := [.int a, .int b]) (rest := []) ⟨hx, hb, hml, hown, hts⟩ (mX7_release l lo D E h hlst Pr τ ad fa hR hW a b) (cwV 2 hts gL_tried_X7_release rfl rfl rfl (by decide +kernel) ⟨Nat.le_of_ble_eq_true rfl, Nat.le_of_ble_eq_true rfl⟩) I hS hR.f0 rfl rfl hl.1 rfl (Nat.le_of_ble_eq_true rfl) dL_tried_7 ⟨Nat.le_of_ble_eq_true rfl, Nat.le_of_ble_eq_true rfl⟩ (fun v9 hw H locs q9 I hS => ?_) (fun q9 En ce H locs hEn I hS hc1 hc2 hc3 => ?_)
  · skip
    obtain ⟨x9, e9, q1, hR2, hF2, hW2⟩ := q9
    subst q1
    refine W.eq (g2 := F0 m 10 ls [.int (x9.1)]) rfl ?_
    refine lv_goto (tgt := 45) hx hb dL_tried_10 (by decide) ?_
    exact W.widen (Nat.le_of_ble_eq_true rfl) (Nat.le_of_ble_eq_true rfl) (xriQ hx hb hr hlocks dL_tried_45 I hS ⟨x9, (show fL_tried0 τ a b = .inr x9 by unfold fL_tried0; rw [e9]; rfl), rfl, ad, fa, hR2, hF2, hW2, rfl⟩)
  · skip
    have hEn2 : fX7_release τ a b = .inl En := hEn
    obtain ⟨rfl, hG⟩ := trG_inl (τ := τ) (d := (-9 : Int32)) hEn2 hok
    have hT := vx_table (x := yL_tried) B (hts _ (List.mem_of_getElem? (i := 0) rfl))
    refine vx_catch (name := "java/lang/IllegalStateException") hown [] ⟨0, 45, 46, 36⟩ [] hT (fun z hz => by simp at hz) (by decide +kernel) (by decide) (hts _ (List.mem_of_getElem? (i := 1) rfl)) (va_Nw.use rfl hX) hc1 hc2 hc3 ?_
    refine lv_astore (lv' := [(4, .ref q9), (0, .ref (ad 0 0)), (1, .int (nI 0)), (2, .int a), (3, .int b)]) hx hb dL_tried_46 hl (by decide) rfl (fun ls hl => ?_)
    refine lv_bipush (v := -9) hx hb dL_tried_48 (by decide) ?_
    exact W.widen (Nat.le_of_ble_eq_true rfl) (Nat.le_of_ble_eq_true rfl) (xriQ hx hb hr hlocks dL_tried_50 I hS ⟨(-9, τ), hG, rfl, ad, fa, hR, cF.rf, hW, rfl⟩)
set_option maxHeartbeats 4000000 in
set_option maxRecDepth 100000 in
theorem mL_tried1 (l : Launch) (lo : Nat) (D : va_G) (E : Nat → ClassId) (h : XW) (hlst : l.stackTraces = false) (Pr : Nat → Prop) (τ : CT) (ad : Nat → Nat → Nat) (fa : Nat → Nat → Option Nat) (hR : RC E Pr τ ad fa h) (hW : CW τ) (a : Int32) (b : Int32) (hok : ∃ x, fL_tried1 τ a b = .inr x) : Met l yL_tried wsL_tried ({ frames := 9, cells := 3, slots := 18, locals := 200 } : Room) (xPB lo D E h [.ref (ad 0 0), .int (nI 1), .int a, .int b]) (xQ lo D (trP E Pr h (ad 0 0) Value.int (fL_tried1 τ a b))) 3 18 (xA lo) := by
  refine xofWH (cc := cL_tried) (maxL := 5) (ret := (some .int)) (hh := [(0, 45, 46, 36)]) (by decide) rfl ?_
  intro p e s m args below meth c s₁ B hml hv
  obtain ⟨rfl, I, hX⟩ := hv
  have hx := B.exec
  have hb := B.bytes
  have hr := B.returns
  have hts := atoms_spec (ws := wsL_tried) B.pre
  have hown : s.vm.findClass RL = some m.cls := findClass_of_methodNamed B.named
  have hlocks := B.notSynchronized
  have hl := lv_entry ([.ref (ad 0 0), .int (nI 1), .int a, .int b] : List Value) (n := 5) (Nat.le_of_ble_eq_true rfl)
  rw [lg_entry_eq]
  generalize (lg_sl ([.ref (ad 0 0), .int (nI 1), .int a, .int b] : List Value) ++ List.replicate (5 - (lg_sl ([.ref (ad 0 0), .int (nI 1), .int a, .int b] : List Value)).length) Slot.unset).toArray = ls at hl ⊢
  have hl : lv_has ls 5 [(0, .ref (ad 0 0)), (1, .int (nI 1)), (2, .int a), (3, .int b)] := hl
  have hS : va_S (xA lo) s.heap s.heap [] := va_S.rf
  refine lv_iload_n hx hb dL_tried_0 rfl (lv_at hl 1 rfl) ?_
  refine lv_if_ne (tgt := 13) hx hb dL_tried_1 (by decide) (fun _ => ?_) (fun q => absurd q (by decide))
  refine lv_iload_n hx hb dL_tried_13 rfl (lv_at hl 1 rfl) ?_
  refine lv_iconst (v := nI 1) hx hb dL_tried_14 (by decide) ?_
  refine lv_icmp_ne (tgt := 27) hx hb dL_tried_15 (by decide) (fun q => absurd (by decide) q) (fun _ => ?_)
  refine lv_aload_n hx hb dL_tried_18 rfl (lv_at hl 0 rfl) ?_
  refine lv_iload_n hx hb dL_tried_19 rfl (lv_at hl 2 rfl) ?_
  refine lv_iload_n hx hb dL_tried_20 rfl (lv_at hl 3 rfl) ?_
  refine xcvC (As := [.int a, .int b]) (rest := []) ⟨hx, hb, hml, hown, hts⟩ (mX7_stop l lo D E h hlst Pr τ ad fa hR hW a b) (cwV 2 hts gL_tried_X7_stop rfl rfl rfl (by decide +kernel) ⟨Nat.le_of_ble_eq_true rfl, Nat.le_of_ble_eq_true rfl⟩) I hS hR.f0 rfl rfl hl.1 rfl (Nat.le_of_ble_eq_true rfl) dL_tried_21 ⟨Nat.le_of_ble_eq_true rfl, Nat.le_of_ble_eq_true rfl⟩ (fun v9 hw H locs q9 I hS => ?_) (fun q9 En ce H locs hEn I hS hc1 hc2 hc3 => ?_)
  · skip
    obtain ⟨x9, e9, q1, hR2, hF2, hW2⟩ := q9
    subst q1
    refine W.eq (g2 := F0 m 24 ls [.int (x9.1)]) rfl ?_
    refine lv_goto (tgt := 45) hx hb dL_tried_24 (by decide) ?_
    exact W.widen (Nat.le_of_ble_eq_true rfl) (Nat.le_of_ble_eq_true rfl) (xriQ hx hb hr hlocks dL_tried_45 I hS ⟨x9, (show fL_tried1 τ a b = .inr x9 by unfold fL_tried1; rw [e9]; rfl), rfl, ad, fa, hR2, hF2, hW2, rfl⟩)
  · skip
    have hEn2 : fX7_stop τ a b = .inl En := hEn
    obtain ⟨rfl, hG⟩ := trG_inl (τ := τ) (d := (-9 : Int32)) hEn2 hok
    have hT := vx_table (x := yL_tried) B (hts _ (List.mem_of_getElem? (i := 0) rfl))
    refine vx_catch (name := "java/lang/IllegalStateException") hown [] ⟨0, 45, 46, 36⟩ [] hT (fun z hz => by simp at hz) (by decide +kernel) (by decide) (hts _ (List.mem_of_getElem? (i := 1) rfl)) (va_Nw.use rfl hX) hc1 hc2 hc3 ?_
    refine lv_astore (lv' := [(4, .ref q9), (0, .ref (ad 0 0)), (1, .int (nI 1)), (2, .int a), (3, .int b)]) hx hb dL_tried_46 hl (by decide) rfl (fun ls hl => ?_)
    refine lv_bipush (v := -9) hx hb dL_tried_48 (by decide) ?_
    exact W.widen (Nat.le_of_ble_eq_true rfl) (Nat.le_of_ble_eq_true rfl) (xriQ hx hb hr hlocks dL_tried_50 I hS ⟨(-9, τ), hG, rfl, ad, fa, hR, cF.rf, hW, rfl⟩)
set_option maxHeartbeats 4000000 in
set_option maxRecDepth 100000 in
theorem mL_tried2 (l : Launch) (lo : Nat) (D : va_G) (E : Nat → ClassId) (h : XW) (hlst : l.stackTraces = false) (Pr : Nat → Prop) (τ : CT) (ad : Nat → Nat → Nat) (fa : Nat → Nat → Option Nat) (hR : RC E Pr τ ad fa h) (hW : CW τ) (a : Int32) (b : Int32) (hok : ∃ x, fL_tried2 τ a = .inr x) : Met l yL_tried wsL_tried ({ frames := 9, cells := 3, slots := 18, locals := 200 } : Room) (xPB lo D E h [.ref (ad 0 0), .int (nI 2), .int a, .int b]) (xQ lo D (trP E Pr h (ad 0 0) Value.int (fL_tried2 τ a))) 3 18 (xA lo) := by
  refine xofWH (cc := cL_tried) (maxL := 5) (ret := (some .int)) (hh := [(0, 45, 46, 36)]) (by decide) rfl ?_
  intro p e s m args below meth c s₁ B hml hv
  obtain ⟨rfl, I, hX⟩ := hv
  have hx := B.exec
  have hb := B.bytes
  have hr := B.returns
  have hts := atoms_spec (ws := wsL_tried) B.pre
  have hown : s.vm.findClass RL = some m.cls := findClass_of_methodNamed B.named
  have hlocks := B.notSynchronized
  have hl := lv_entry ([.ref (ad 0 0), .int (nI 2), .int a, .int b] : List Value) (n := 5) (Nat.le_of_ble_eq_true rfl)
  rw [lg_entry_eq]
  generalize (lg_sl ([.ref (ad 0 0), .int (nI 2), .int a, .int b] : List Value) ++ List.replicate (5 - (lg_sl ([.ref (ad 0 0), .int (nI 2), .int a, .int b] : List Value)).length) Slot.unset).toArray = ls at hl ⊢
  have hl : lv_has ls 5 [(0, .ref (ad 0 0)), (1, .int (nI 2)), (2, .int a), (3, .int b)] := hl
  have hS : va_S (xA lo) s.heap s.heap [] := va_S.rf
  refine lv_iload_n hx hb dL_tried_0 rfl (lv_at hl 1 rfl) ?_
  refine lv_if_ne (tgt := 13) hx hb dL_tried_1 (by decide) (fun _ => ?_) (fun q => absurd q (by decide))
  refine lv_iload_n hx hb dL_tried_13 rfl (lv_at hl 1 rfl) ?_
  refine lv_iconst (v := nI 1) hx hb dL_tried_14 (by decide) ?_
  refine lv_icmp_ne (tgt := 27) hx hb dL_tried_15 (by decide) (fun _ => ?_) (fun q => absurd q (by decide))
  refine lv_iload_n hx hb dL_tried_27 rfl (lv_at hl 1 rfl) ?_
  refine lv_iconst (v := nI 2) hx hb dL_tried_28 (by decide) ?_
  refine lv_icmp_ne (tgt := 40) hx hb dL_tried_29 (by decide) (fun q => absurd (by decide) q) (fun _ => ?_)
  refine lv_aload_n hx hb dL_tried_32 rfl (lv_at hl 0 rfl) ?_
  refine lv_iload_n hx hb dL_tried_33 rfl (lv_at hl 2 rfl) ?_
  refine xcsC (As := [.ref (ad 0 0), .int a]) (rest := []) ⟨hx, hb, hml, hown, hts⟩ (mL_entered l lo D E h hlst Pr τ ad fa hR hW a) (va_cwS 2 hts gL_tried_L_entered rfl rfl rfl (by decide +kernel) ⟨Nat.le_of_ble_eq_true rfl, Nat.le_of_ble_eq_true rfl⟩) I hS rfl hl.1 rfl (Nat.le_of_ble_eq_true rfl) dL_tried_34 ⟨Nat.le_of_ble_eq_true rfl, Nat.le_of_ble_eq_true rfl⟩ (fun v9 hw H locs q9 I hS => ?_) (fun q9 En ce H locs hEn I hS hc1 hc2 hc3 => ?_)
  · skip
    obtain ⟨x9, e9, q1, ad2, fa2, hR2, hF2, hW2, h00⟩ := q9
    subst q1
    refine W.eq (g2 := F0 m 37 ls [.int (nI 0)]) rfl ?_
    refine lv_goto (tgt := 45) hx hb dL_tried_37 (by decide) ?_
    exact W.widen (Nat.le_of_ble_eq_true rfl) (Nat.le_of_ble_eq_true rfl) (xriQ hx hb hr hlocks dL_tried_45 I hS ⟨(nI 0, x9), (show fL_tried2 τ a = .inr (nI 0, x9) by unfold fL_tried2 fL_entered; rw [e9]; rfl), rfl, ad2, fa2, hR2, hF2, hW2, h00⟩)
  · skip
    have hEn2 : fL_entered τ a = .inl En := by unfold fL_entered; rw [show fX7_enter τ a = .inl En from hEn]
    obtain ⟨rfl, hG⟩ := trG_inl (τ := τ) (d := (-9 : Int32)) hEn2 hok
    have hT := vx_table (x := yL_tried) B (hts _ (List.mem_of_getElem? (i := 0) rfl))
    refine vx_catch (name := "java/lang/IllegalStateException") hown [] ⟨0, 45, 46, 36⟩ [] hT (fun z hz => by simp at hz) (by decide +kernel) (by decide) (hts _ (List.mem_of_getElem? (i := 1) rfl)) (va_Nw.use rfl hX) hc1 hc2 hc3 ?_
    refine lv_astore (lv' := [(4, .ref q9), (0, .ref (ad 0 0)), (1, .int (nI 2)), (2, .int a), (3, .int b)]) hx hb dL_tried_46 hl (by decide) rfl (fun ls hl => ?_)
    refine lv_bipush (v := -9) hx hb dL_tried_48 (by decide) ?_
    exact W.widen (Nat.le_of_ble_eq_true rfl) (Nat.le_of_ble_eq_true rfl) (xriQ hx hb hr hlocks dL_tried_50 I hS ⟨(-9, τ), hG, rfl, ad, fa, hR, cF.rf, hW, rfl⟩)
set_option maxHeartbeats 4000000 in
set_option maxRecDepth 100000 in
theorem mL_tried3 (l : Launch) (lo : Nat) (D : va_G) (E : Nat → ClassId) (h : XW) (hlst : l.stackTraces = false) (Pr : Nat → Prop) (τ : CT) (ad : Nat → Nat → Nat) (fa : Nat → Nat → Option Nat) (hR : RC E Pr τ ad fa h) (hW : CW τ) (a : Int32) (b : Int32) (hok : ∃ x, fL_tried3 τ a = .inr x) : Met l yL_tried wsL_tried ({ frames := 9, cells := 3, slots := 18, locals := 200 } : Room) (xPB lo D E h [.ref (ad 0 0), .int (nI 3), .int a, .int b]) (xQ lo D (trP E Pr h (ad 0 0) Value.int (fL_tried3 τ a))) 3 18 (xA lo) := by
  refine xofWH (cc := cL_tried) (maxL := 5) (ret := (some .int)) (hh := [(0, 45, 46, 36)]) (by decide) rfl ?_
  intro p e s m args below meth c s₁ B hml hv
  obtain ⟨rfl, I, hX⟩ := hv
  have hx := B.exec
  have hb := B.bytes
  have hr := B.returns
  have hts := atoms_spec (ws := wsL_tried) B.pre
  have hown : s.vm.findClass RL = some m.cls := findClass_of_methodNamed B.named
  have hlocks := B.notSynchronized
  have hl := lv_entry ([.ref (ad 0 0), .int (nI 3), .int a, .int b] : List Value) (n := 5) (Nat.le_of_ble_eq_true rfl)
  rw [lg_entry_eq]
  generalize (lg_sl ([.ref (ad 0 0), .int (nI 3), .int a, .int b] : List Value) ++ List.replicate (5 - (lg_sl ([.ref (ad 0 0), .int (nI 3), .int a, .int b] : List Value)).length) Slot.unset).toArray = ls at hl ⊢
  have hl : lv_has ls 5 [(0, .ref (ad 0 0)), (1, .int (nI 3)), (2, .int a), (3, .int b)] := hl
  have hS : va_S (xA lo) s.heap s.heap [] := va_S.rf
  refine lv_iload_n hx hb dL_tried_0 rfl (lv_at hl 1 rfl) ?_
  refine lv_if_ne (tgt := 13) hx hb dL_tried_1 (by decide) (fun _ => ?_) (fun q => absurd q (by decide))
  refine lv_iload_n hx hb dL_tried_13 rfl (lv_at hl 1 rfl) ?_
  refine lv_iconst (v := nI 1) hx hb dL_tried_14 (by decide) ?_
  refine lv_icmp_ne (tgt := 27) hx hb dL_tried_15 (by decide) (fun _ => ?_) (fun q => absurd q (by decide))
  refine lv_iload_n hx hb dL_tried_27 rfl (lv_at hl 1 rfl) ?_
  refine lv_iconst (v := nI 2) hx hb dL_tried_28 (by decide) ?_
  refine lv_icmp_ne (tgt := 40) hx hb dL_tried_29 (by decide) (fun _ => ?_) (fun q => absurd q (by decide))
  refine lv_aload_n hx hb dL_tried_40 rfl (lv_at hl 0 rfl) ?_
  refine lv_iload_n hx hb dL_tried_41 rfl (lv_at hl 2 rfl) ?_
  refine xcvC (As := [.int a]) (rest := []) ⟨hx, hb, hml, hown, hts⟩ (mX7_leave l lo D E h hlst Pr τ ad fa hR hW a) (cwV 1 hts gL_tried_X7_leave rfl rfl rfl (by decide +kernel) ⟨Nat.le_of_ble_eq_true rfl, Nat.le_of_ble_eq_true rfl⟩) I hS hR.f0 rfl rfl hl.1 rfl (Nat.le_of_ble_eq_true rfl) dL_tried_42 ⟨Nat.le_of_ble_eq_true rfl, Nat.le_of_ble_eq_true rfl⟩ (fun v9 hw H locs q9 I hS => ?_) (fun q9 En ce H locs hEn I hS hc1 hc2 hc3 => ?_)
  · skip
    obtain ⟨x9, e9, q1, hR2, hF2, hW2⟩ := q9
    subst q1
    refine W.eq (g2 := F0 m 45 ls [.int (x9.1)]) rfl ?_
    exact W.widen (Nat.le_of_ble_eq_true rfl) (Nat.le_of_ble_eq_true rfl) (xriQ hx hb hr hlocks dL_tried_45 I hS ⟨x9, (show fL_tried3 τ a = .inr x9 by unfold fL_tried3; rw [e9]; rfl), rfl, ad, fa, hR2, hF2, hW2, rfl⟩)
  · skip
    have hEn2 : fX7_leave τ a = .inl En := hEn
    obtain ⟨rfl, hG⟩ := trG_inl (τ := τ) (d := (-9 : Int32)) hEn2 hok
    have hT := vx_table (x := yL_tried) B (hts _ (List.mem_of_getElem? (i := 0) rfl))
    refine vx_catch (name := "java/lang/IllegalStateException") hown [] ⟨0, 45, 46, 36⟩ [] hT (fun z hz => by simp at hz) (by decide +kernel) (by decide) (hts _ (List.mem_of_getElem? (i := 1) rfl)) (va_Nw.use rfl hX) hc1 hc2 hc3 ?_
    refine lv_astore (lv' := [(4, .ref q9), (0, .ref (ad 0 0)), (1, .int (nI 3)), (2, .int a), (3, .int b)]) hx hb dL_tried_46 hl (by decide) rfl (fun ls hl => ?_)
    refine lv_bipush (v := -9) hx hb dL_tried_48 (by decide) ?_
    exact W.widen (Nat.le_of_ble_eq_true rfl) (Nat.le_of_ble_eq_true rfl) (xriQ hx hb hr hlocks dL_tried_50 I hS ⟨(-9, τ), hG, rfl, ad, fa, hR, cF.rf, hW, rfl⟩)
set_option maxHeartbeats 4000000 in
set_option maxRecDepth 100000 in
theorem mL_closed (l : Launch) (lo : Nat) (D : va_G) (E : Nat → ClassId) (h : XW) (hlst : l.stackTraces = false) (Pr : Nat → Prop) (τ : CT) (ad : Nat → Nat → Nat) (fa : Nat → Nat → Option Nat) (hR : RC E Pr τ ad fa h) (hW : CW τ) (y : Int32) (hok : ∃ x, fL_closed τ y = .inr x) : Met l yL_closed wsL_closed ({ frames := 9, cells := 3, slots := 18, locals := 200 } : Room) (xPB lo D E h [.ref (ad 0 0), .int y]) (xQ lo D (trP E Pr h (ad 0 0) Value.long (fL_closed τ y))) 3 18 (xA lo) := by
  refine xofWH (cc := cL_closed) (maxL := 3) (ret := (some .long)) (hh := [(0, 5, 6, 36)]) (by decide) rfl ?_
  intro p e s m args below meth c s₁ B hml hv
  obtain ⟨rfl, I, hX⟩ := hv
  have hx := B.exec
  have hb := B.bytes
  have hr := B.returns
  have hts := atoms_spec (ws := wsL_closed) B.pre
  have hown : s.vm.findClass RL = some m.cls := findClass_of_methodNamed B.named
  have hlocks := B.notSynchronized
  have hl := lv_entry ([.ref (ad 0 0), .int y] : List Value) (n := 3) (Nat.le_of_ble_eq_true rfl)
  rw [lg_entry_eq]
  generalize (lg_sl ([.ref (ad 0 0), .int y] : List Value) ++ List.replicate (3 - (lg_sl ([.ref (ad 0 0), .int y] : List Value)).length) Slot.unset).toArray = ls at hl ⊢
  have hl : lv_has ls 3 [(0, .ref (ad 0 0)), (1, .int y)] := hl
  have hS : va_S (xA lo) s.heap s.heap [] := va_S.rf
  refine lv_aload_n hx hb dL_closed_0 rfl (lv_at hl 0 rfl) ?_
  refine lv_iload_n hx hb dL_closed_1 rfl (lv_at hl 1 rfl) ?_
  refine xcvC (As := [.int y]) (rest := []) ⟨hx, hb, hml, hown, hts⟩ (mX7_close l lo D E h hlst Pr τ ad fa hR hW y) (cwV 1 hts gL_closed_X7_close rfl rfl rfl (by decide +kernel) ⟨Nat.le_of_ble_eq_true rfl, Nat.le_of_ble_eq_true rfl⟩) I hS hR.f0 rfl rfl hl.1 rfl (Nat.le_of_ble_eq_true rfl) dL_closed_2 ⟨Nat.le_of_ble_eq_true rfl, Nat.le_of_ble_eq_true rfl⟩ (fun v9 hw H locs q9 I hS => ?_) (fun q9 En ce H locs hEn I hS hc1 hc2 hc3 => ?_)
  · skip
    obtain ⟨x9, e9, q1, hR2, hF2, hW2⟩ := q9
    subst q1
    refine W.eq (g2 := F0 m 5 ls [.long x9.1]) rfl ?_
    exact W.widen (Nat.le_of_ble_eq_true rfl) (Nat.le_of_ble_eq_true rfl) (xrlQ hx hb hr hlocks dL_closed_5 I hS ⟨x9, (show fL_closed τ y = .inr x9 by unfold fL_closed; rw [e9]; rfl), rfl, ad, fa, hR2, hF2, hW2, rfl⟩)
  · skip
    have hEn2 : fX7_close τ y = .inl En := hEn
    obtain ⟨rfl, hG⟩ := trG_inl (τ := τ) (d := (-1 : Int64)) hEn2 hok
    have hT := vx_table (x := yL_closed) B (hts _ (List.mem_of_getElem? (i := 0) rfl))
    refine vx_catch (name := "java/lang/IllegalStateException") hown [] ⟨0, 5, 6, 36⟩ [] hT (fun z hz => by simp at hz) (by decide +kernel) (by decide) (hts _ (List.mem_of_getElem? (i := 1) rfl)) (va_Nw.use rfl hX) hc1 hc2 hc3 ?_
    refine lv_astore_n (lv' := [(2, .ref q9), (0, .ref (ad 0 0)), (1, .int y)]) hx hb dL_closed_6 rfl hl (by decide) rfl (fun ls hl => ?_)
    refine lv_ldc2 (v := (-1 : Int64)) hx hb hown (hts _ (List.mem_of_getElem? (i := 2) rfl)) dL_closed_7 ?_
    exact W.widen (Nat.le_of_ble_eq_true rfl) (Nat.le_of_ble_eq_true rfl) (xrlQ hx hb hr hlocks dL_closed_10 I hS ⟨(-1, τ), hG, rfl, ad, fa, hR, cF.rf, hW, rfl⟩)
