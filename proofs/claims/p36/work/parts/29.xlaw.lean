/-! the law's wrappers: a call that is caught -/
def xnms3 : List String := ["java/lang/IndexOutOfBoundsException", "java/lang/IllegalArgumentException", "java/lang/IllegalStateException"]
def XCa (U : State) : Prop := (∀ X ∈ xnms3, va_Nw (.castable X X) U) ∧ ∀ X ∈ xnms3, ∀ Y ∈ xnms3, X ≠ Y → va_Nc X Y U
theorem XCa.warm {s U : State} (hW : s.WarmedH U.vm) (h : XCa s) : XCa U := ⟨fun X hX => va_Nw.warmC hW (h.1 X hX), fun X hX Y hY hn => va_Nc.moved hW.alike (h.2 X hX Y hY hn)⟩
theorem XCa.same {s U : State} (hv : U.vm = s.vm) (h : XCa s) : XCa U := by
  have hA : s.vm.Alike U.vm := by rw [hv]; exact Vm.Alike.refl s.vm
  exact ⟨fun X hX => va_Nw.same rfl hv.symm (h.1 X hX), fun X hX Y hY hn => va_Nc.moved hA (h.2 X hX Y hY hn)⟩
def xPC (lo : Nat) (D : va_G) (E : Nat → ClassId) (h : XW) (as : List Value) : Array Value → State → Prop := va_Pc as (fun U => XI lo D E h U U.heap ∧ XCa U)
theorem xPC_blind {lo : Nat} {D : va_G} {E : Nat → ClassId} {h : XW} {as : List Value} : FrameBlind (xPC lo D E h as) := fun a U g mk ⟨h1, h2, h3⟩ => ⟨h1, XI.same (s := U) rfl h2, XCa.same (s := U) rfl h3⟩
theorem xofWH {l : Launch} {y : MethodName} {ws ws' : List Cond} {rm : Room} {Pc : Array Value → State → Prop} {Qc : Array Value → State → Outcome → State → Prop} {mc ms : Nat} {free : Addr → Prop} {cc : ByteArray} {maxL : Nat} {ret : Option FieldType} {hh : List (Nat × Nat × Nat × Nat)}
    (hy : plainName y.cls = true) (hw : ws = Cond.codeWith y cc maxL ret hh :: ws')
    (body : ∀ p e s m args below meth c s₁, BodyLoose p l y (headSpec ws rm) cc maxL ret e s m args below meth c s₁ → c.maxLocals = maxL → Pc args s →
      W p l e (headSpec ws rm).room s m args below meth c s.heap [] 0 0 (MQ below Qc args s mc ms free) (entryFrame m args maxL)) : Met l y ws rm Pc Qc mc ms free := by
  refine MetFree.of_bodyS (code := cc) (maxLocals := maxL) (ret := ret) hy ?_ ?_
  · intro args s m h hn
    obtain ⟨m9, meth, c, hn9, h1, h2, h3, h4, -, h5, h6, -⟩ := Cond.codeWith_spec (atoms_spec (ws := ws) h _ (by rw [hw]; exact List.mem_cons_self))
    cases hn.symm.trans hn9
    exact ⟨meth, c, h1, h2, h3, h4, h5, h6⟩
  · intro p e s m args below meth c s₁ B hml hP _
    have hh0 : s₁.heap = s.heap := by rw [B.state]; rfl
    obtain ⟨t, a1, o, b1, b2, b3⟩ := body p e s m args below meth c s₁ B hml hP s₁ hh0 (Stand.of_body B)
    exact ⟨t, o, a1, b1, b2, ⟨b3.1, b3.2⟩⟩
section XXC
variable {p : Program} {l : Launch} {e : Env} {R : Room} {s : State} {m : MethodId} {args : Array Value} {below : List Frame} {meth : Method} {c : Code} {H : Heap} {locs : List Loc} {cells slots : Nat} {Q : State → Prop}
variable {cc : ByteArray} {pc : Nat} {ls : Array Slot} {rest st0 : List Value} {D : va_G} {E : Nat → ClassId} {h h0 : XW} {lo n i : Nat} {H0 : Heap} {Ts : List Cond} {post : Option Value → XW → Prop} {px pxc : String → Prop}
theorem xcC {aa : Array Value} {mc ms : Nat} (hrun : vx_Run p l e R s m args below meth c H locs cells slots mc ms (F0 m pc ls st0) rest (xQ lo D post aa) (xXp lo D h pxc) (xA lo)) (I : XI lo D E h s H) (hS : va_S (xA lo) H0 H locs)
    (kk : ∀ (v : Option Value) (h2 : XW) (H1 : Heap) (locs1 : List Loc), post v h2 → XI lo D E h2 s H1 → va_S (xA lo) H0 H1 locs1 → W p l e R s m args below meth c H1 locs1 (cells + mc) (slots + ms) Q (F0 m (pc + 3) ls (v.toList ++ rest)))
    (kx : ∀ (q : Addr) (En : String) (ce : Cell) (H1 : Heap) (locs1 : List Loc), pxc En → XI lo D E h s H1 → va_S (xA lo) H0 H1 locs1 → H1[q]? = some ce → ce.vm = .none → s.vm.findClass En = some ce.cls → vx_W p l e R s m args below meth c H1 locs1 (cells + mc) (slots + ms) Q (F0 m pc ls rest) q) : W p l e R s m args below meth c H locs cells slots Q (F0 m pc ls st0) := by
  intro T hT X
  rcases hrun T hT X with ⟨v, st₀, t, T', L, e0, X', hL, e1, e2, ⟨⟨v9, h2, hv, hp, hO⟩, hF⟩, st⟩ | ⟨q, st₀, t, T', L, En, ce, e0, X', hL, e1, e2, ⟨hp, hO, hF⟩, hce, hcv, hcl, st⟩
  · cases hv
    obtain ⟨hz, hk⟩ := hF
    rw [e0] at hz hk
    obtain ⟨t2, a1, b1⟩ := kk v h2 T'.heap (locs ++ L) hp (XI.step (H0 := H) (locs := []) I hO.1 (by rw [e1]; exact hO.2) (by rw [e1]; exact hz) (fun q h1 h2 => by rw [e1]; exact hk q h1 h2))
      ⟨Nat.le_trans hS.1 (by rw [e1]; exact hz), fun q g1 g2 => by rw [e1, hk q (Nat.lt_of_lt_of_le g1 hS.1) g2]; exact hS.2.1 q g1 g2, fun q hq => by
        rcases List.mem_append.mp hq with g | g
        · exact hS.2.2 q g
        · exact hL q g⟩ T' rfl X'
    exact ⟨t2, st t2 a1, b1⟩
  · obtain ⟨hz, hk⟩ := hF
    rw [e0] at hz hk
    have hS1 : va_S (xA lo) H0 T'.heap (locs ++ L) := ⟨Nat.le_trans hS.1 (by rw [e1]; exact hz), fun q g1 g2 => by rw [e1, hk q (Nat.lt_of_lt_of_le g1 hS.1) g2]; exact hS.2.1 q g1 g2, fun q hq => by
        rcases List.mem_append.mp hq with g | g
        · exact hS.2.2 q g
        · exact hL q g⟩
    obtain ⟨t2, a1, b1⟩ := kx q En ce T'.heap (locs ++ L) hp (XI.step (H0 := H) (locs := []) I hO.1 (by rw [e1]; exact hO.2) (by rw [e1]; exact hz) (fun q h1 h2 => by rw [e1]; exact hk q h1 h2)) hS1 (by rw [e1]; exact hce) hcv hcl T' rfl X'
    exact ⟨t2, st.trans a1, b1⟩
theorem xcvC {y : MethodName} {bytes : ByteArray} {maxL nL na index ci N mc ms : Nat} {ret : Option FieldType} {ws : List Cond} {rm : Room} {own C : String} {T : u_T} {b : Addr} {As fs : List Value} (S : CallFix p m c cc nL s args Ts own) (hM : vx_Met l y ws rm (xP lo D E h (.ref b :: As)) (xQ lo D post) (xXp lo D h pxc) mc ms (xA lo)) (cw : CallW R s args own C index y bytes maxL ret ws rm mc ms na) (I : XI lo D E h s H) (hS : va_S (xA lo) H0 H locs) (hbc : h b = some (.inr (ci, fs))) (hc : vwCl[ci]? = some (C, T, N)) (hn : As.length = na) (hsize : ls.size = nL) (hst : st0 = As.reverse ++ .ref b :: rest) (hW : (rest.map fun v => v.category).sum ≤ 8) (hdg : decode cc pc = .ok (.invokevirtual index, 3)) (hf : cells + mc ≤ R.cells ∧ slots + ms ≤ R.slots)
    (kk : ∀ (v : Option Value) (h2 : XW) (H1 : Heap) (locs1 : List Loc), post v h2 → XI lo D E h2 s H1 → va_S (xA lo) H0 H1 locs1 → W p l e R s m args below meth c H1 locs1 (cells + mc) (slots + ms) Q (F0 m (pc + 3) ls (v.toList ++ rest)))
    (kx : ∀ (q : Addr) (En : String) (ce : Cell) (H1 : Heap) (locs1 : List Loc), pxc En → XI lo D E h s H1 → va_S (xA lo) H0 H1 locs1 → H1[q]? = some ce → ce.vm = .none → s.vm.findClass En = some ce.cls → vx_W p l e R s m args below meth c H1 locs1 (cells + mc) (slots + ms) Q (F0 m pc ls rest) q) : W p l e R s m args below meth c H locs cells slots Q (F0 m pc ls st0) :=
  xcC (vx_runV (As := As) (rest := rest) S hM cw ⟨xP_blind, va_recv I.2.2.2.1 (xone I.2.2.1 hbc) hc (q0 := 0) rfl, fun U hU hW => ⟨rfl, by show XI lo D E h U U.heap; rw [hU]; exact XI.warm hW I⟩⟩ rfl hn hsize hst (lv_room hW) hdg hf) I hS kk kx
end XXC
theorem RC.out {E : Nat → ClassId} {Pr : Nat → Prop} {τ : CT} {ad : Nat → Nat → Nat} {fa : Nat → Nat → Option Nat} {h : XW} (hR : RC E Pr τ ad fa h) {q : Nat} {e : va_E} (hq : Pr q) : RC E Pr τ ad fa (hset h q e) :=
  ⟨fun K i hl => by rw [hset_n (fun z => hR.2.2.1 K i hl (by rw [z]; exact hq))]; exact hR.1 K i hl, hR.2.1, hR.2.2.1, fun b hb => by
    by_cases hbq : b = q
    · rw [hbq, hset_s]; exact fun z => by cases z
    · rw [hset_n hbq]; exact hR.2.2.2.1 b hb, hR.2.2.2.2⟩
/-- a call's answer, for the law -/
abbrev wR : Type := String ⊕ (Option Int64 × CT)
def wI (τ : CT) (G : String ⊕ Int32) : wR := match G with
  | .inl e => .inl e
  | .inr x => .inr (some x.toInt64, τ)
def wL (τ : CT) (G : String ⊕ Int64) : wR := match G with
  | .inl e => .inl e
  | .inr x => .inr (some x, τ)
def wZ (τ : CT) (G : String ⊕ Int32) : wR := match G with
  | .inl e => .inl e
  | .inr x => .inr (some (if x = 0 then 0 else 1), τ)
def wIs (G : String ⊕ (Int32 × CT)) : wR := match G with
  | .inl e => .inl e
  | .inr x => .inr (some x.1.toInt64, x.2)
def wLs (G : String ⊕ (Int64 × CT)) : wR := match G with
  | .inl e => .inl e
  | .inr x => .inr (some x.1, x.2)
def wZs (G : String ⊕ (Int32 × CT)) : wR := match G with
  | .inl e => .inl e
  | .inr x => .inr (some (if x.1 = 0 then 0 else 1), x.2)
def wVs (G : String ⊕ CT) : wR := match G with
  | .inl e => .inl e
  | .inr x => .inr (none, x)
def wcode (xs : List String) (En : String) (k : Int32) : Prop := match xs with
  | [X1] => En = X1 ∧ k = nI 1
  | [X1, X2] => (En = X1 ∧ k = nI 1) ∨ (En = X2 ∧ k = nI 2)
  | [X1, X2, X3] => (En = X1 ∧ k = nI 1) ∨ (En = X2 ∧ k = nI 2) ∨ (En = X3 ∧ k = nI 3)
  | _ => False
def wout (fo : Nat → Int64) (r : Option Int64) : Nat → Int64 := match r with
  | some x => vp_updL fo 0 x
  | none => fo
def wQ (E : Nat → ClassId) (Pr : Nat → Prop) (h : XW) (xq ou : Nat) (fo : Nat → Int64) (G : wR) (xs : List String) : Option Value → XW → Prop := fun v h' =>
  (∃ En k, G = .inl En ∧ wcode xs En k ∧ v = some (.int k) ∧ h' = h) ∨
  (∃ r τ1, G = .inr (r, τ1) ∧ v = some (.int (nI 0)) ∧ CW τ1 ∧ (∀ q, Pr q → q ≠ ou → h' q = h q) ∧ (∃ ad' fa', RC E Pr τ1 ad' fa' h' ∧ ad' 0 0 = xq) ∧ h' ou = some (.inl (E 1, 1, .inr (.inl (wout fo r)))))
theorem xcov {x : ExceptionTableEntry} {pc : Nat} (h : covers x pc = true) : covers x pc = true := h
