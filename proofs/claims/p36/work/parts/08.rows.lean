/-! rows over worlds: arrays, new cells, ends, calls -/
theorem upd_self1 {α : Type} {P : α → Prop} {x y : α} (h : x = y) (hp : P y) : P x := h ▸ hp
theorem xone {D : va_G} {h : XW} {H : Heap} {a : Nat} {e : va_E} (hP : ∀ a e, h a = some e → va_at D vwCl (a, e) H) (ha : h a = some e) : va_P D vwCl [(a, e)] H := fun j q hj => by
  cases j with
  | zero => cases hj; exact hP a _ ha
  | succ j => simp at hj
section XROWS
variable {p : Program} {l : Launch} {e : Env} {R : Room} {s : State} {m : MethodId} {args : Array Value} {below : List Frame} {meth : Method} {c : Code} {H : Heap} {locs : List Loc} {cells slots : Nat} {Q : State → Prop}
variable {cc : ByteArray} {pc : Nat} {ls : Array Slot} {rest : List Value} {D : va_G} {E : Nat → ClassId} {h : XW} {lo a n i : Nat} {H0 : Heap} {Ts : List Cond}
theorem xiald {f : Nat → Int32} (hx : p.tables.exec = Jvm.exec) (hb : c.code = cc) (I : XI lo D E h s H) (ha : h a = some (.inl (E 0, n, .inl f))) (hi : i < n) (hn : n < 2 ^ 31) (hdg : decode cc pc = .ok (.iaload, 1)) (kk : W p l e R s m args below meth c H locs cells slots Q (F0 m (pc + 1) ls (.int (f i) :: rest))) : W p l e R s m args below meth c H locs cells slots Q (F0 m pc ls (.int (nI i) :: .ref a :: rest)) :=
  va_iald (ws := [(a, .inl (E 0, n, .inl f))]) hx hb I.2.2.2.1 (xone I.2.2.1 ha) 0 0 rfl rfl (vp_in_nI hi hn) hdg (by rw [nI_clamp (Nat.lt_trans hi hn)]; exact kk)
theorem xlald {f : Nat → Int64} (hx : p.tables.exec = Jvm.exec) (hb : c.code = cc) (I : XI lo D E h s H) (ha : h a = some (.inl (E 1, n, .inr (.inl f)))) (hi : i < n) (hn : n < 2 ^ 31) (hdg : decode cc pc = .ok (.laload, 1)) (kk : W p l e R s m args below meth c H locs cells slots Q (F0 m (pc + 1) ls (.long (f i) :: rest))) : W p l e R s m args below meth c H locs cells slots Q (F0 m pc ls (.int (nI i) :: .ref a :: rest)) :=
  va_lald (ws := [(a, .inl (E 1, n, .inr (.inl f)))]) hx hb I.2.2.2.1 (xone I.2.2.1 ha) 0 1 rfl rfl (vp_in_nI hi hn) hdg (by rw [nI_clamp (Nat.lt_trans hi hn)]; exact kk)
theorem xzald {f : Nat → Int32} (hx : p.tables.exec = Jvm.exec) (hb : c.code = cc) (I : XI lo D E h s H) (ha : h a = some (.inl (E 2, n, .inl f))) (hi : i < n) (hn : n < 2 ^ 31) (hdg : decode cc pc = .ok (.baload, 1)) (kk : W p l e R s m args below meth c H locs cells slots Q (F0 m (pc + 1) ls (.int (f i) :: rest))) : W p l e R s m args below meth c H locs cells slots Q (F0 m pc ls (.int (nI i) :: .ref a :: rest)) :=
  va_zald (ws := [(a, .inl (E 2, n, .inl f))]) hx hb I.2.2.2.1 (xone I.2.2.1 ha) 0 2 rfl rfl (vp_in_nI hi hn) hdg (by rw [nI_clamp (Nat.lt_trans hi hn)]; exact kk)
theorem xaald {f : Nat → Option Nat} {C : String} (t : Nat) (hx : p.tables.exec = Jvm.exec) (hb : c.code = cc) (I : XI lo D E h s H) (ht : (xtys E)[t]? = some (E t, .object C)) (ha : h a = some (.inl (E t, n, .inr (.inr (.inr (.inr f)))))) (hi : i < n) (hn : n < 2 ^ 31) {v : Option Nat} (hv : f i = v) (hdg : decode cc pc = .ok (.aaload, 1)) (kk : W p l e R s m args below meth c H locs cells slots Q (F0 m (pc + 1) ls (va_rf v :: rest))) : W p l e R s m args below meth c H locs cells slots Q (F0 m pc ls (.int (nI i) :: .ref a :: rest)) :=
  va_aldq (ws := [(a, .inl (E t, n, .inr (.inr (.inr (.inr f)))))]) hx hb I.2.2.2.1 (xone I.2.2.1 ha) 0 t rfl ht (vp_in_nI hi hn) hdg (by rw [nI_clamp (Nat.lt_trans hi hn), hv]; exact kk)
theorem xtop2 {z x y : Value} (hxy : x = y) (kk : W p l e R s m args below meth c H locs cells slots Q (F0 m pc ls (z :: y :: rest))) : W p l e R s m args below meth c H locs cells slots Q (F0 m pc ls (z :: x :: rest)) := by rw [hxy]; exact kk
/-- what a store row of the kit gives, over the whole world -/
theorem xst {e1 : va_E} {q0 : Nat} {e0 : va_E} {H1 : Heap} {locs1 : List Loc} (I : XI lo D E h s H) (hS : va_S (xA lo) H0 H locs) (ha : h a = some e0) (hq : (xw h H.size)[q0]? = some (a, e0)) (hP1 : va_P D vwCl ((xw h H.size).set q0 (a, e1)) H1) (hS1 : va_S (fun q => lo ≤ q ∧ True) H H1 locs1) : XI lo D E (hset h a e1) s H1 ∧ va_S (xA lo) H0 H1 locs1 := by
  have hA : ∀ b x, hset h a e1 b = some x → lo ≤ b := by
    intro b x hb
    by_cases hba : b = a
    · subst hba; exact I.2.1 b _ ha
    · rw [hset_n hba] at hb; exact I.2.1 b _ hb
  refine ⟨XI.step (H0 := H) (locs := []) I hA (xw_set (fun b x hb => I.lt b x hb) hq hP1) hS1.1 (fun q h1 h2 => hS1.2.1 q h1 (fun z => h2 z.1)), Nat.le_trans hS.1 hS1.1, fun q h1 h2 => ?_, fun q hq => (hS1.2.2 q hq).1⟩
  rw [hS1.2.1 q (Nat.lt_of_lt_of_le h1 hS.1) (fun z => h2 z.1)]
  exact hS.2.1 q h1 h2
theorem xS0 (hS : va_S (xA lo) H0 H locs) : va_S (fun q => lo ≤ q ∧ True) H H locs := ⟨Nat.le_refl _, fun _ _ _ => rfl, fun q hq => ⟨hS.2.2 q hq, trivial⟩⟩
theorem xD0 (I : XI lo D E h s H) (k : Nat) : va_D (fun q => lo ≤ q ∧ True) (xw h k) := xw_D (fun a e he => ⟨I.2.1 a e he, trivial⟩)
theorem xiast {f : Nat → Int32} {x : Int32} (hx : p.tables.exec = Jvm.exec) (hb : c.code = cc) (I : XI lo D E h s H) (hS : va_S (xA lo) H0 H locs) (ha : h a = some (.inl (E 0, n, .inl f))) (hi : i < n) (hn : n < 2 ^ 31) (hdg : decode cc pc = .ok (.iastore, 1))
    (kk : ∀ (H1 : Heap) (locs1 : List Loc), XI lo D E (hset h a (.inl (E 0, n, .inl (upd f i x)))) s H1 → va_S (xA lo) H0 H1 locs1 → W p l e R s m args below meth c H1 locs1 cells slots Q (F0 m (pc + 1) ls rest)) : W p l e R s m args below meth c H locs cells slots Q (F0 m pc ls (.int x :: .int (nI i) :: .ref a :: rest)) := by
  obtain ⟨q0, hq⟩ := xw_get (I.lt a _ ha) ha
  refine va_iast (ws := xw h H.size) (A := fun q => lo ≤ q ∧ True) (H0 := H) hx hb I.2.2.2.1 (xw_P I.2.2.1 _) (xD0 I _) (xS0 hS) q0 0 hq rfl (vp_in_nI hi hn) hdg (fun H1 locs1 hP1 _ hS1 => ?_)
  rw [nI_clamp (Nat.lt_trans hi hn)] at hP1
  obtain ⟨I1, S1⟩ := xst I hS ha hq hP1 hS1
  exact kk H1 locs1 I1 S1
theorem xlast {f : Nat → Int64} {x : Int64} (hx : p.tables.exec = Jvm.exec) (hb : c.code = cc) (I : XI lo D E h s H) (hS : va_S (xA lo) H0 H locs) (ha : h a = some (.inl (E 1, n, .inr (.inl f)))) (hi : i < n) (hn : n < 2 ^ 31) (hdg : decode cc pc = .ok (.lastore, 1))
    (kk : ∀ (H1 : Heap) (locs1 : List Loc), XI lo D E (hset h a (.inl (E 1, n, .inr (.inl (vp_updL f i x))))) s H1 → va_S (xA lo) H0 H1 locs1 → W p l e R s m args below meth c H1 locs1 cells slots Q (F0 m (pc + 1) ls rest)) : W p l e R s m args below meth c H locs cells slots Q (F0 m pc ls (.long x :: .int (nI i) :: .ref a :: rest)) := by
  obtain ⟨q0, hq⟩ := xw_get (I.lt a _ ha) ha
  refine va_last (ws := xw h H.size) (A := fun q => lo ≤ q ∧ True) (H0 := H) hx hb I.2.2.2.1 (xw_P I.2.2.1 _) (xD0 I _) (xS0 hS) q0 1 hq rfl (vp_in_nI hi hn) hdg (fun H1 locs1 hP1 _ hS1 => ?_)
  rw [nI_clamp (Nat.lt_trans hi hn)] at hP1
  obtain ⟨I1, S1⟩ := xst I hS ha hq hP1 hS1
  exact kk H1 locs1 I1 S1
theorem xzast {f : Nat → Int32} {x : Int32} (hx : p.tables.exec = Jvm.exec) (hb : c.code = cc) (I : XI lo D E h s H) (hS : va_S (xA lo) H0 H locs) (ha : h a = some (.inl (E 2, n, .inl f))) (hi : i < n) (hn : n < 2 ^ 31) (h01 : vp_nar .boolean x = x) (hdg : decode cc pc = .ok (.bastore, 1))
    (kk : ∀ (H1 : Heap) (locs1 : List Loc), XI lo D E (hset h a (.inl (E 2, n, .inl (upd f i x)))) s H1 → va_S (xA lo) H0 H1 locs1 → W p l e R s m args below meth c H1 locs1 cells slots Q (F0 m (pc + 1) ls rest)) : W p l e R s m args below meth c H locs cells slots Q (F0 m pc ls (.int x :: .int (nI i) :: .ref a :: rest)) := by
  obtain ⟨q0, hq⟩ := xw_get (I.lt a _ ha) ha
  refine va_zast (ws := xw h H.size) (A := fun q => lo ≤ q ∧ True) (H0 := H) hx hb I.2.2.2.1 (xw_P I.2.2.1 _) (xD0 I _) (xS0 hS) q0 2 hq rfl (vp_in_nI hi hn) hdg (fun H1 locs1 hP1 _ hS1 => ?_)
  rw [nI_clamp (Nat.lt_trans hi hn), h01] at hP1
  obtain ⟨I1, S1⟩ := xst I hS ha hq hP1 hS1
  exact kk H1 locs1 I1 S1
theorem xzast' {f : Nat → Int32} {x : Int32} (hx : p.tables.exec = Jvm.exec) (hb : c.code = cc) (I : XI lo D E h s H) (hS : va_S (xA lo) H0 H locs) (ha : h a = some (.inl (E 2, n, .inl f))) (hi : i < n) (hn : n < 2 ^ 31) (hdg : decode cc pc = .ok (.bastore, 1))
    (kk : ∀ (H1 : Heap) (locs1 : List Loc), XI lo D E (hset h a (.inl (E 2, n, .inl (upd f i (vp_nar .boolean x))))) s H1 → va_S (xA lo) H0 H1 locs1 → W p l e R s m args below meth c H1 locs1 cells slots Q (F0 m (pc + 1) ls rest)) : W p l e R s m args below meth c H locs cells slots Q (F0 m pc ls (.int x :: .int (nI i) :: .ref a :: rest)) := by
  obtain ⟨q0, hq⟩ := xw_get (I.lt a _ ha) ha
  refine va_zast (ws := xw h H.size) (A := fun q => lo ≤ q ∧ True) (H0 := H) hx hb I.2.2.2.1 (xw_P I.2.2.1 _) (xD0 I _) (xS0 hS) q0 2 hq rfl (vp_in_nI hi hn) hdg (fun H1 locs1 hP1 _ hS1 => ?_)
  rw [nI_clamp (Nat.lt_trans hi hn)] at hP1
  obtain ⟨I1, S1⟩ := xst I hS ha hq hP1 hS1
  exact kk H1 locs1 I1 S1
theorem xaast {f : Nat → Option Nat} {r : vw_C} {v ci : Nat} {vs : List Value} (t : Nat) (hx : p.tables.exec = Jvm.exec) (hb : c.code = cc) (I : XI lo D E h s H) (hS : va_S (xA lo) H0 H locs) (ha : h a = some (.inl (E t, n, .inr (.inr (.inr (.inr f)))))) (ht : (xtys E)[t]? = some (E t, .object r.1)) (hv : h v = some (.inr (ci, vs))) (hc : vwCl[ci]? = some r) (hi : i < n) (hn : n < 2 ^ 31) (hdg : decode cc pc = .ok (.aastore, 1))
    (kk : ∀ (H1 : Heap) (locs1 : List Loc), XI lo D E (hset h a (.inl (E t, n, .inr (.inr (.inr (.inr (va_up f i (some v)))))))) s H1 → va_S (xA lo) H0 H1 locs1 → W p l e R s m args below meth c H1 locs1 cells slots Q (F0 m (pc + 1) ls rest)) : W p l e R s m args below meth c H locs cells slots Q (F0 m pc ls (.ref v :: .int (nI i) :: .ref a :: rest)) := by
  obtain ⟨q0, hq⟩ := xw_get (I.lt a _ ha) ha
  obtain ⟨q1, hq1⟩ := xw_get (I.lt v _ hv) hv
  refine va_astq (ws := xw h H.size) (A := fun q => lo ≤ q ∧ True) (H0 := H) hx hb I.2.2.2.1 (xw_P I.2.2.1 _) (xD0 I _) (xS0 hS) q0 t q1 ci hq ht hq1 hc (vp_in_nI hi hn) hdg (fun H1 locs1 hP1 _ hS1 => ?_)
  rw [nI_clamp (Nat.lt_trans hi hn)] at hP1
  obtain ⟨I1, S1⟩ := xst I hS ha hq hP1 hS1
  exact kk H1 locs1 I1 S1
theorem xnewed {q : Nat} {e1 : va_E} {H1 : Heap} (I : XI lo D E h s H) (hS : va_S (xA lo) H0 H locs) (hP1 : va_P D vwCl (xw h H.size ++ [(q, e1)]) H1) (hD1 : va_D (fun q => lo ≤ q ∧ True) (xw h H.size ++ [(q, e1)])) (hS1 : va_S (fun q => lo ≤ q ∧ True) H H1 locs) : h q = none ∧ lo ≤ q ∧ XI lo D E (hset h q e1) s H1 ∧ va_S (xA lo) H0 H1 locs := by
  have hl : (xw h H.size ++ [(q, e1)])[(xw h H.size).length]? = some (q, e1) := by rw [List.getElem?_append_right (Nat.le_refl _)]; simp
  have hq : lo ≤ q := (hD1.2 _ _ hl).1
  refine ⟨?_, hq, XI.step (H0 := H) (locs := []) I ?_ (xw_push (fun b x hb => I.lt b x hb) hP1) hS1.1 (fun q h1 h2 => hS1.2.1 q h1 (fun z => h2 z.1)), Nat.le_trans hS.1 hS1.1, fun q h1 h2 => ?_, fun q hq => (hS1.2.2 q hq).1⟩
  · cases hh : h q with
    | none => rfl
    | some x =>
      obtain ⟨j, hj⟩ := xw_get (I.lt q _ hh) hh
      have hjl := (List.getElem?_eq_some_iff.mp hj).1
      have hz := hD1.1 j (xw h H.size).length (q, x) (q, e1) (by rw [List.getElem?_append_left hjl]; exact hj) hl rfl
      omega
  · intro b x hb
    by_cases hba : b = q
    · subst hba; exact hq
    · rw [hset_n hba] at hb; exact I.2.1 b _ hb
  · rw [hS1.2.1 q (Nat.lt_of_lt_of_le h1 hS.1) (fun z => h2 z.1)]
    exact hS.2.1 q h1 h2
theorem xnew {own C : String} {T : u_T} {N ci index : Nat} {fs : List Value} (hx : p.tables.exec = Jvm.exec) (hb : c.code = cc) (hts : ∀ w ∈ Ts, w.before args s = true) (hin : ∀ w ∈ u_ws C T N, w ∈ Ts) (ty : Nat → FieldType) (hty : ∀ k, k < N → parseFieldDescriptor (T k).2.2.1 = some (ty k)) (hown : s.vm.findClass own = some m.cls) (hcl : Cond.classLink own index C ∈ Ts) (hinst : Cond.instantiable C N ∈ Ts) (hini : Cond.initialized C ∈ Ts) (I : XI lo D E h s H) (hS : va_S (xA lo) H0 H locs) (hc : vwCl[ci]? = some (C, T, N)) (hfs : ∀ j, j < N → defaultValue (ty j) = vp_V fs j) (hcells : cells + 1 ≤ R.cells) (hslots : slots + N ≤ R.slots) (hdg : decode cc pc = .ok (.new index, 3))
    (kk : ∀ (q : Nat) (H1 : Heap), h q = none → lo ≤ q → XI lo D E (hset h q (.inr (ci, fs))) s H1 → va_S (xA lo) H0 H1 locs → W p l e R s m args below meth c H1 locs (cells + 1) (slots + N) Q (F0 m (pc + 3) ls (.ref q :: rest))) : W p l e R s m args below meth c H locs cells slots Q (F0 m pc ls rest) := by
  refine va_new (ws := xw h H.size) (A := fun q => lo ≤ q ∧ True) (H0 := H) hx hb hts hin ty hty hown (hts _ hcl) (hts _ hinst) (hts _ hini) I.2.2.2.1 (xw_P I.2.2.1 _) (xD0 I _) (xS0 hS) (fun q hq => ⟨Nat.le_trans I.1 hq, trivial⟩) hc hfs hcells hslots hdg (fun q H1 hP1 hD1 hS1 => ?_)
  obtain ⟨h1, h2, h3, h4⟩ := xnewed I hS hP1 hD1 hS1
  exact kk q H1 h1 h2 h3 h4
/-- ends -/
theorem xriR {v w : Int32} (hx : p.tables.exec = Jvm.exec) (hb : c.code = cc) (hr : meth.sig.returnType = some .int) (hlocks : meth.locks = false) (hdg : decode cc pc = .ok (.ireturn, 1)) (hv : v = w) : W p l e R s m args below meth c s.heap [] 0 0 (MQ below (xR (some (.int w))) args s 0 0 (fun _ => False)) (F0 m pc ls [.int v]) := by
  subst hv
  exact W.iret hx hb hr (fun t ht _ => ⟨rfl, ht⟩) (fun _ h => nomatch h) hdg hlocks
theorem xrzR {v w : Int32} (hx : p.tables.exec = Jvm.exec) (hb : c.code = cc) (hr : meth.sig.returnType = some .boolean) (hlocks : meth.locks = false) (hdg : decode cc pc = .ok (.ireturn, 1)) (hv : v = w) (h01 : narrow .boolean (.int w) = .int w) : W p l e R s m args below meth c s.heap [] 0 0 (MQ below (xR (some (.int w))) args s 0 0 (fun _ => False)) (F0 m pc ls [.int v]) := by
  subst hv
  exact W.zret hx hb hr h01 (fun t ht _ => ⟨rfl, ht⟩) (fun _ h => nomatch h) hdg hlocks
theorem xrlR {v w : Int64} (hx : p.tables.exec = Jvm.exec) (hb : c.code = cc) (hr : meth.sig.returnType = some .long) (hlocks : meth.locks = false) (hdg : decode cc pc = .ok (.lreturn, 1)) (hv : v = w) : W p l e R s m args below meth c s.heap [] 0 0 (MQ below (xR (some (.long w))) args s 0 0 (fun _ => False)) (F0 m pc ls [.long v]) := by
  subst hv
  exact W.lret hx hb hr (fun t ht _ => ⟨rfl, ht⟩) (fun _ h => nomatch h) hdg hlocks
/-- calls -/
theorem xcR {v : Option Value} {aa : Array Value} {st0 : List Value} (hr : CallRun p l e R s m args below meth c H locs cells slots 0 0 (F0 m pc ls st0) rest (xR v aa) (fun _ => False)) (kk : W p l e R s m args below meth c H locs cells slots Q (F0 m (pc + 3) ls (v.toList ++ rest))) : W p l e R s m args below meth c H locs cells slots Q (F0 m pc ls st0) := by
  intro T hT X
  obtain ⟨v9, st₀, t, T', L, h0, X', hL, e1, ⟨hv, hh⟩, st⟩ := hr T hT X
  cases hv
  obtain ⟨t2, a1, b1⟩ := kk T' (by rw [e1, hh, h0]) (Stand.forget X' (fun q h => (hL q h).elim))
  exact ⟨t2, st t2 a1, b1⟩
theorem xcvR {y : MethodName} {bytes : ByteArray} {maxL nL na index ci N : Nat} {ret : Option FieldType} {ws : List Cond} {rm : Room} {own C : String} {T : u_T} {b : Addr} {As fs : List Value} {v : Option Value} {st0 : List Value} (S : CallFix p m c cc nL s args Ts own) (hM : Met l y ws rm (xP lo D E h (.ref b :: As)) (xR v) 0 0 (fun _ => False)) (cw : CallW R s args own C index y bytes maxL ret ws rm 0 0 na) (I : XI lo D E h s H) (hbc : h b = some (.inr (ci, fs))) (hc : vwCl[ci]? = some (C, T, N)) (hn : As.length = na) (hsize : ls.size = nL) (hst : st0 = As.reverse ++ .ref b :: rest) (hW : (rest.map fun v => v.category).sum ≤ 8) (hdg : decode cc pc = .ok (.invokevirtual index, 3)) (hf : cells + 0 ≤ R.cells ∧ slots + 0 ≤ R.slots)
    (kk : W p l e R s m args below meth c H locs cells slots Q (F0 m (pc + 3) ls (v.toList ++ rest))) : W p l e R s m args below meth c H locs cells slots Q (F0 m pc ls st0) :=
  xcR (W.runV (As := As) (rest := rest) S hM cw ⟨xP_blind, va_recv I.2.2.2.1 (xone I.2.2.1 hbc) hc (q0 := 0) rfl, fun U hU hW => ⟨rfl, by show XI lo D E h U U.heap; rw [hU]; exact XI.warm hW I⟩⟩ rfl hn hsize hst (lv_room hW) hdg hf) kk
theorem xcsR {y : MethodName} {bytes : ByteArray} {maxL nL na index : Nat} {ret : Option FieldType} {ws : List Cond} {rm : Room} {own : String} {As : List Value} {v : Option Value} {st0 : List Value} (S : CallFix p m c cc nL s args Ts own) (hM : Met l y ws rm (xP lo D E h As) (xR v) 0 0 (fun _ => False)) (cw : CallB R s args own index y bytes maxL ret ws rm 0 0 na ∧ (Cond.static y).before args s = true) (I : XI lo D E h s H) (hn : As.length = na) (hsize : ls.size = nL) (hst : st0 = As.reverse ++ rest) (hW : (rest.map fun v => v.category).sum ≤ 8) (hdg : decode cc pc = .ok (.invokestatic index, 3)) (hf : cells + 0 ≤ R.cells ∧ slots + 0 ≤ R.slots)
    (kk : W p l e R s m args below meth c H locs cells slots Q (F0 m (pc + 3) ls (v.toList ++ rest))) : W p l e R s m args below meth c H locs cells slots Q (F0 m pc ls st0) :=
  xcR (W.runS (As := As) (rest := rest) S hM cw ⟨xP_blind, fun U hU hW => ⟨rfl, by show XI lo D E h U U.heap; rw [hU]; exact XI.warm hW I⟩⟩ rfl hn hsize hst (lv_room hW) hdg hf) kk
end XROWS
