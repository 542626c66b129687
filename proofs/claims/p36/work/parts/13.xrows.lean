/-! throwing: a callee that returns or throws, the throw itself, and passing it on -/
def xXp (lo : Nat) (D : va_G) (h : XW) (px : String → Prop) : String → State → State → Prop := fun En st t => px En ∧ XO lo D h t.heap ∧ va_F (xA lo) st t
def xbindE {α β : Type} (x : String ⊕ α) (f : α → String ⊕ β) : String ⊕ β := match x with
  | .inl e => .inl e
  | .inr a => f a
section XXR
variable {p : Program} {l : Launch} {e : Env} {R : Room} {s : State} {m : MethodId} {args : Array Value} {below : List Frame} {meth : Method} {c : Code} {H : Heap} {locs : List Loc} {cells slots : Nat} {Q : State → Prop}
variable {cc : ByteArray} {pc : Nat} {ls : Array Slot} {rest st0 : List Value} {D : va_G} {E : Nat → ClassId} {h h0 : XW} {lo n i : Nat} {H0 : Heap} {Ts : List Cond} {post : Option Value → XW → Prop} {px pxc : String → Prop}
theorem xhat {ic : Nat} {X : String} (hm : (ic, X) ∈ xexs) (hT : XT lo s s.heap) (hg : ∀ w ∈ (vx_atS RX7 ic X xnames).filter goodWord, w ∈ Ts) (hts : ∀ w ∈ Ts, w.before args s = true) : ∀ w ∈ vx_atS RX7 ic X xnames, w.before args s = true :=
  vx_hat (B := xbad) (fun w hw => hts w (hg w hw)) (fun w hw => List.mem_flatMap.mpr ⟨(ic, X), hm, hw⟩) (fun w hw => xCD_tabs (xbad_cd w hw) rfl (hT.2.2.2 w hw))
theorem xgoodS : ∀ q ∈ xexs, ∀ w ∈ vx_atS RX7 q.1 q.2 xnames, vx_ot w = true := by decide +kernel
theorem xfitS : (∀ q ∈ xexs, Bundle.fit q.2 = true) ∧ ∀ n ∈ xnames, Bundle.fit n = true := by decide +kernel
theorem xthS {ik is ic mc ms : Nat} {X text : String} {Qc : Array Value → State → Outcome → State → Prop} (hx : p.tables.exec = Jvm.exec) (hb : c.code = cc) (hl : l.stackTraces = false) (hown : s.vm.findClass RX7 = some m.cls) (hts : ∀ w ∈ Ts, w.before args s = true) (hm : (ic, X) ∈ xexs) (hk : Cond.classLink RX7 ik X ∈ Ts) (hini : Cond.initialized X ∈ Ts) (hg : ∀ w ∈ (vx_atS RX7 ic X xnames).filter goodWord, w ∈ Ts) (hlit : (is, text) ∈ xlits) (hT0 : XT lo s s.heap) (I : XI lo D E h s H) (hS : va_S (xA lo) s.heap H locs) (hsize : ls.size = c.maxLocals)
    (d0 : decode cc pc = .ok (.new ik, 3)) (d3 : decode cc (pc + 3) = .ok (.dup, 1)) (d4 : decode cc (pc + 4) = .ok (.ldc is, 2)) (d6 : decode cc (pc + 6) = .ok (.invokespecial ic, 3)) (d9 : decode cc (pc + 9) = .ok (.athrow, 1)) (hout : ∀ x ∈ c.exceptionTable.toList, False)
    (hRframes : 5 < R.frames) (hRlocals : (rest.map fun v => v.category).sum + 82 ≤ R.locals) (hRcells : cells + 1 ≤ R.cells) (hRslots : slots + 6 ≤ R.slots) (hlocks : meth.locks = false) (hp : px X) (hc : cells + 1 ≤ mc) (hs : slots + 6 ≤ ms) :
    W p l e R s m args below meth c H locs cells slots (vx_MQ below Qc (xXp lo D h px) args s mc ms (xA lo)) (F0 m pc ls rest) := by
  obtain ⟨sa, hstr⟩ := hT0.2.2.1 _ hlit
  refine vx_throwS (own := RX7) (names := xnames) (A := xA lo) hx hb hl hown (xfitS.1 _ hm) xfitS.2 (hts _ hk) (hts _ hini) hstr (xhat hm hT0 hg hts) (fun w hw => ?_) hT0.1 hT0.2.1 hS hsize d0 d3 d4 d6 d9 (fun x hx => (hout x hx).elim) hRframes hRlocals hRcells hRslots hlocks (fun t _ hz hk => ⟨hp, ⟨I.2.1, fun a e he => (I.2.2.1 a e he).kept (hk a (I.lt a e he))⟩, Nat.le_trans hS.1 hz, fun q h1 h2 => by rw [hk q (Nat.lt_of_lt_of_le h1 hS.1)]; exact hS.2.1 q h1 h2⟩) hS.2.2 hc hs
  rcases List.mem_cons.mp hw with rfl | hw
  · rfl
  · rcases List.mem_cons.mp hw with rfl | hw
    · rfl
    · exact xgoodS _ hm w hw
theorem xthSW {ik is ic mc ms : Nat} {X text : String} {Qc : Array Value → State → Outcome → State → Prop} (hx : p.tables.exec = Jvm.exec) (hb : c.code = cc) (hl : l.stackTraces = false) (hown : s.vm.findClass RX7 = some m.cls) (hts : ∀ w ∈ Ts, w.before args s = true) (hm : (ic, X) ∈ xexs) (hk : Cond.classLink RX7 ik X ∈ Ts) (hini : Cond.initialized X ∈ Ts) (hg : ∀ w ∈ (vx_atS RX7 ic X xnames).filter goodWord, w ∈ Ts) (hlit : (is, text) ∈ xlits) (hT0 : XT lo s s.heap) (I : XI lo D E h s H) (hS : va_S (xA lo) s.heap H locs) (hsize : ls.size = c.maxLocals)
    (d0 : decode cc pc = .ok (.new ik, 3)) (d3 : decode cc (pc + 3) = .ok (.dup, 1)) (d4 : decode cc (pc + 4) = .ok (.ldc_w is, 3)) (d7 : decode cc (pc + 7) = .ok (.invokespecial ic, 3)) (d10 : decode cc (pc + 10) = .ok (.athrow, 1)) (hout : ∀ x ∈ c.exceptionTable.toList, False)
    (hRframes : 5 < R.frames) (hRlocals : (rest.map fun v => v.category).sum + 82 ≤ R.locals) (hRcells : cells + 1 ≤ R.cells) (hRslots : slots + 6 ≤ R.slots) (hlocks : meth.locks = false) (hp : px X) (hc : cells + 1 ≤ mc) (hs : slots + 6 ≤ ms) :
    W p l e R s m args below meth c H locs cells slots (vx_MQ below Qc (xXp lo D h px) args s mc ms (xA lo)) (F0 m pc ls rest) := by
  obtain ⟨sa, hstr⟩ := hT0.2.2.1 _ hlit
  refine vx_throwSW (own := RX7) (names := xnames) (A := xA lo) hx hb hl hown (xfitS.1 _ hm) xfitS.2 (hts _ hk) (hts _ hini) hstr (xhat hm hT0 hg hts) (fun w hw => ?_) hT0.1 hT0.2.1 hS hsize d0 d3 d4 d7 d10 (fun x hx => (hout x hx).elim) hRframes hRlocals hRcells hRslots hlocks (fun t _ hz hk => ⟨hp, ⟨I.2.1, fun a e he => (I.2.2.1 a e he).kept (hk a (I.lt a e he))⟩, Nat.le_trans hS.1 hz, fun q h1 h2 => by rw [hk q (Nat.lt_of_lt_of_le h1 hS.1)]; exact hS.2.1 q h1 h2⟩) hS.2.2 hc hs
  rcases List.mem_cons.mp hw with rfl | hw
  · rfl
  · rcases List.mem_cons.mp hw with rfl | hw
    · rfl
    · exact xgoodS _ hm w hw
/-- a call that returns or throws; thrown, it goes on to the caller -/
theorem xcX {aa : Array Value} {mc ms mc0 ms0 : Nat} {Qc : Array Value → State → Outcome → State → Prop} {hr : va_S (xA lo) s.heap H locs} (hrun : vx_Run p l e R s m args below meth c H locs cells slots mc ms (F0 m pc ls st0) rest (xQ lo D post aa) (xXp lo D h pxc) (xA lo)) (I : XI lo D E h s H) (hS : va_S (xA lo) s.heap H locs) (hout : ∀ x ∈ c.exceptionTable.toList, False) (hlocks : meth.locks = false) (hpx : ∀ En, pxc En → px En) (hc : cells + mc ≤ mc0) (hs : slots + ms ≤ ms0)
    (kk : ∀ (v : Option Value) (h2 : XW) (H1 : Heap) (locs1 : List Loc), post v h2 → XI lo D E h2 s H1 → va_S (xA lo) s.heap H1 locs1 → W p l e R s m args below meth c H1 locs1 (cells + mc) (slots + ms) (vx_MQ below Qc (xXp lo D h px) args s mc0 ms0 (xA lo)) (F0 m (pc + 3) ls (v.toList ++ rest))) : W p l e R s m args below meth c H locs cells slots (vx_MQ below Qc (xXp lo D h px) args s mc0 ms0 (xA lo)) (F0 m pc ls st0) := by
  intro T hT X
  rcases hrun T hT X with ⟨v, st₀, t, T', L, e0, X', hL, e1, e2, ⟨⟨v9, h2, hv, hp, hO⟩, hF⟩, st⟩ | ⟨q, st₀, t, T', L, En, ce, e0, X', hL, e1, e2, ⟨hp, hO, hF⟩, hce, hcv, hcl, st⟩
  · cases hv
    obtain ⟨hz, hk⟩ := hF
    rw [e0] at hz hk
    obtain ⟨t2, a1, b1⟩ := kk v h2 T'.heap (locs ++ L) hp (XI.step (H0 := H) (locs := []) I hO.1 (by rw [e1]; exact hO.2) (by rw [e1]; exact hz) (fun q h1 h2 => by rw [e1]; exact hk q h1 h2))
      ⟨Nat.le_trans hS.1 (by rw [e1]; exact hz), fun q g1 g2 => by rw [e1, hk q (Nat.lt_of_lt_of_le g1 hS.1) g2]; exact hS.2.1 q g1 g2, fun q hq => by
        rcases List.mem_append.mp hq with g | g
        · exact hS.2.2 q g
        · exact hL q g⟩ T' rfl X'
    exact ⟨t2, st t2 a1, b1⟩
  · obtain ⟨hz, hk⟩ := hF
    rw [e0] at hz hk
    have hS1 : va_S (xA lo) s.heap T'.heap (locs ++ L) := ⟨Nat.le_trans hS.1 (by rw [e1]; exact hz), fun q g1 g2 => by rw [e1, hk q (Nat.lt_of_lt_of_le g1 hS.1) g2]; exact hS.2.1 q g1 g2, fun q hq => by
        rcases List.mem_append.mp hq with g | g
        · exact hS.2.2 q g
        · exact hL q g⟩
    have K := vx_out (p := p) (l := l) (e := e) (R := R) (s := s) (m := m) (args := args) (below := below) (meth := meth) (c := c) (H := T'.heap) (locs := locs ++ L) (cells := cells + mc) (slots := slots + ms) (free := xA lo) (ls := ls) (rest := rest) (Qc := Qc) (XC := xXp lo D h px) (pc := pc) (E := En) (ce := ce) (q := q) (mc := mc0) (ms := ms0) (fun x hx => (hout x hx).elim) hlocks (by rw [e1]; exact hce) hcv hcl
      (fun t' ht' _ => ⟨hpx _ hp, ⟨hO.1, fun a e9 he => by rw [ht', e1]; exact hO.2 a e9 he⟩, hS1.F ht'⟩) hS1.2.2 hc hs
    obtain ⟨t2, a1, b1⟩ := K T' rfl X'
    exact ⟨t2, st.trans a1, b1⟩
theorem xcvX {y : MethodName} {bytes : ByteArray} {maxL nL na index ci N mc ms mc0 ms0 : Nat} {ret : Option FieldType} {ws : List Cond} {rm : Room} {own C : String} {T : u_T} {b : Addr} {As fs : List Value} {Qc : Array Value → State → Outcome → State → Prop} (S : CallFix p m c cc nL s args Ts own) (hM : vx_Met l y ws rm (xP lo D E h (.ref b :: As)) (xQ lo D post) (xXp lo D h pxc) mc ms (xA lo)) (cw : CallW R s args own C index y bytes maxL ret ws rm mc ms na) (I : XI lo D E h s H) (hS : va_S (xA lo) s.heap H locs) (hbc : h b = some (.inr (ci, fs))) (hc : vwCl[ci]? = some (C, T, N)) (hn : As.length = na) (hsize : ls.size = nL) (hst : st0 = As.reverse ++ .ref b :: rest) (hW : (rest.map fun v => v.category).sum ≤ 8) (hdg : decode cc pc = .ok (.invokevirtual index, 3)) (hf : cells + mc ≤ R.cells ∧ slots + ms ≤ R.slots) (hout : ∀ x ∈ c.exceptionTable.toList, False) (hlocks : meth.locks = false) (hpx : ∀ En, pxc En → px En) (hcs : cells + mc ≤ mc0 ∧ slots + ms ≤ ms0)
    (kk : ∀ (v : Option Value) (h2 : XW) (H1 : Heap) (locs1 : List Loc), post v h2 → XI lo D E h2 s H1 → va_S (xA lo) s.heap H1 locs1 → W p l e R s m args below meth c H1 locs1 (cells + mc) (slots + ms) (vx_MQ below Qc (xXp lo D h px) args s mc0 ms0 (xA lo)) (F0 m (pc + 3) ls (v.toList ++ rest))) : W p l e R s m args below meth c H locs cells slots (vx_MQ below Qc (xXp lo D h px) args s mc0 ms0 (xA lo)) (F0 m pc ls st0) :=
  xcX (hr := hS) (vx_runV (As := As) (rest := rest) S hM cw ⟨xP_blind, va_recv I.2.2.2.1 (xone I.2.2.1 hbc) hc (q0 := 0) rfl, fun U hU hW => ⟨rfl, by show XI lo D E h U U.heap; rw [hU]; exact XI.warm hW I⟩⟩ rfl hn hsize hst (lv_room hW) hdg hf) I hS hout hlocks hpx hcs.1 hcs.2 kk
theorem xcsX {y : MethodName} {bytes : ByteArray} {maxL nL na index mc ms mc0 ms0 : Nat} {ret : Option FieldType} {ws : List Cond} {rm : Room} {own : String} {As : List Value} {Qc : Array Value → State → Outcome → State → Prop} (S : CallFix p m c cc nL s args Ts own) (hM : vx_Met l y ws rm (xP lo D E h As) (xQ lo D post) (xXp lo D h pxc) mc ms (xA lo)) (cw : CallB R s args own index y bytes maxL ret ws rm mc ms na ∧ (Cond.static y).before args s = true) (I : XI lo D E h s H) (hS : va_S (xA lo) s.heap H locs) (hn : As.length = na) (hsize : ls.size = nL) (hst : st0 = As.reverse ++ rest) (hW : (rest.map fun v => v.category).sum ≤ 8) (hdg : decode cc pc = .ok (.invokestatic index, 3)) (hf : cells + mc ≤ R.cells ∧ slots + ms ≤ R.slots) (hout : ∀ x ∈ c.exceptionTable.toList, False) (hlocks : meth.locks = false) (hpx : ∀ En, pxc En → px En) (hcs : cells + mc ≤ mc0 ∧ slots + ms ≤ ms0)
    (kk : ∀ (v : Option Value) (h2 : XW) (H1 : Heap) (locs1 : List Loc), post v h2 → XI lo D E h2 s H1 → va_S (xA lo) s.heap H1 locs1 → W p l e R s m args below meth c H1 locs1 (cells + mc) (slots + ms) (vx_MQ below Qc (xXp lo D h px) args s mc0 ms0 (xA lo)) (F0 m (pc + 3) ls (v.toList ++ rest))) : W p l e R s m args below meth c H locs cells slots (vx_MQ below Qc (xXp lo D h px) args s mc0 ms0 (xA lo)) (F0 m pc ls st0) :=
  xcX (hr := hS) (vx_runS (As := As) (rest := rest) S hM cw ⟨xP_blind, fun U hU hW => ⟨rfl, by show XI lo D E h U U.heap; rw [hU]; exact XI.warm hW I⟩⟩ rfl hn hsize hst (lv_room hW) hdg hf) I hS hout hlocks hpx hcs.1 hcs.2 kk
/-- ends of a method that may throw -/
theorem xriX {mc ms : Nat} {v : Int32} {XC : String → State → State → Prop} (hx : p.tables.exec = Jvm.exec) (hb : c.code = cc) (hr : meth.sig.returnType = some .int) (hlocks : meth.locks = false) (hdg : decode cc pc = .ok (.ireturn, 1)) (I : XI lo D E h s H) (hS : va_S (xA lo) s.heap H locs) (hp : post (some (.int v)) h) (hc : cells ≤ mc) (hs : slots ≤ ms) : W p l e R s m args below meth c H locs cells slots (vx_MQ below (xQ lo D post) XC args s mc ms (xA lo)) (F0 m pc ls [.int v]) :=
  W.widen hc hs (vx_ret (xriQ hx hb hr hlocks hdg I hS hp))
theorem xrzX {mc ms : Nat} {v : Int32} {XC : String → State → State → Prop} (hx : p.tables.exec = Jvm.exec) (hb : c.code = cc) (hr : meth.sig.returnType = some .boolean) (hlocks : meth.locks = false) (hdg : decode cc pc = .ok (.ireturn, 1)) (h01 : v = 0 ∨ v = 1) (I : XI lo D E h s H) (hS : va_S (xA lo) s.heap H locs) (hp : post (some (.int v)) h) (hc : cells ≤ mc) (hs : slots ≤ ms) : W p l e R s m args below meth c H locs cells slots (vx_MQ below (xQ lo D post) XC args s mc ms (xA lo)) (F0 m pc ls [.int v]) :=
  W.widen hc hs (vx_ret (xrzQ hx hb hr hlocks hdg h01 I hS hp))
theorem xrlX {mc ms : Nat} {v : Int64} {XC : String → State → State → Prop} (hx : p.tables.exec = Jvm.exec) (hb : c.code = cc) (hr : meth.sig.returnType = some .long) (hlocks : meth.locks = false) (hdg : decode cc pc = .ok (.lreturn, 1)) (I : XI lo D E h s H) (hS : va_S (xA lo) s.heap H locs) (hp : post (some (.long v)) h) (hc : cells ≤ mc) (hs : slots ≤ ms) : W p l e R s m args below meth c H locs cells slots (vx_MQ below (xQ lo D post) XC args s mc ms (xA lo)) (F0 m pc ls [.long v]) :=
  W.widen hc hs (vx_ret (xrlQ hx hb hr hlocks hdg I hS hp))
theorem xrvX {mc ms : Nat} {XC : String → State → State → Prop} (hx : p.tables.exec = Jvm.exec) (hb : c.code = cc) (hr : meth.sig.returnType = none) (hlocks : meth.locks = false) (hdg : decode cc pc = .ok (.return_, 1)) (I : XI lo D E h s H) (hS : va_S (xA lo) s.heap H locs) (hp : post none h) (hc : cells ≤ mc) (hs : slots ≤ ms) : W p l e R s m args below meth c H locs cells slots (vx_MQ below (xQ lo D post) XC args s mc ms (xA lo)) (F0 m pc ls []) :=
  W.widen hc hs (vx_ret (xrvQ hx hb hr hlocks hdg I hS hp))
theorem xraQ {v : Value} {rt : String} (hx : p.tables.exec = Jvm.exec) (hb : c.code = cc) (hr : meth.sig.returnType = some (.object rt)) (hv : ∃ a, v = .ref a) (hlocks : meth.locks = false) (hdg : decode cc pc = .ok (.areturn, 1)) (I : XI lo D E h s H) (hS : va_S (xA lo) s.heap H locs) (hp : post (some v) h) : W p l e R s m args below meth c H locs cells slots (MQ below (xQ lo D post) args s cells slots (xA lo)) (F0 m pc ls [v]) := by
  obtain ⟨a, rfl⟩ := hv
  exact W.aret hx hb hr (Or.inl ⟨_, rfl⟩) (Or.inr ⟨a, rfl⟩) (fun t ht _ => ⟨⟨_, h, rfl, hp, by rw [ht]; exact I.O⟩, hS.F ht⟩) hS.2.2 hdg hlocks
theorem xraX {mc ms : Nat} {v : Value} {rt : String} {XC : String → State → State → Prop} (hx : p.tables.exec = Jvm.exec) (hb : c.code = cc) (hr : meth.sig.returnType = some (.object rt)) (hv : ∃ a, v = .ref a) (hlocks : meth.locks = false) (hdg : decode cc pc = .ok (.areturn, 1)) (I : XI lo D E h s H) (hS : va_S (xA lo) s.heap H locs) (hp : post (some v) h) (hc : cells ≤ mc) (hs : slots ≤ ms) : W p l e R s m args below meth c H locs cells slots (vx_MQ below (xQ lo D post) XC args s mc ms (xA lo)) (F0 m pc ls [v]) :=
  W.widen hc hs (vx_ret (xraQ hx hb hr hv hlocks hdg I hS hp))
end XXR
