/-! lists of new cells beside an old world -/
def xNs (L : List (Nat × va_E)) (h0 h1 : XW) : Prop :=
  (∀ (k : Nat) (p : Nat × va_E), L[k]? = some p → h1 p.1 = some p.2) ∧ (∀ (k : Nat) (p : Nat × va_E), L[k]? = some p → h0 p.1 = none) ∧
  (∀ (i j : Nat) (p r : Nat × va_E), L[i]? = some p → L[j]? = some r → p.1 = r.1 → i = j) ∧ (∀ b : Nat, (∀ (k : Nat) (p : Nat × va_E), L[k]? = some p → b ≠ p.1) → h1 b = h0 b)
section XNS
variable {L : List (Nat × va_E)} {h0 h1 : XW}
theorem xNs.nil {h : XW} : xNs [] h h := ⟨fun k p hk => by simp at hk, fun k p hk => by simp at hk, fun i j p r hk => by simp at hk, fun _ _ => rfl⟩
theorem xNs.get (a : xNs L h0 h1) {k q : Nat} {e : va_E} (hk : L[k]? = some (q, e)) : h1 q = some e := a.1 k (q, e) hk
theorem xNs.none (a : xNs L h0 h1) {k q : Nat} {e : va_E} (hk : L[k]? = some (q, e)) : h0 q = Option.none := a.2.1 k (q, e) hk
theorem xNs.ne (a : xNs L h0 h1) {i j q r : Nat} {e f : va_E} (hi : L[i]? = some (q, e)) (hj : L[j]? = some (r, f)) (hij : i ≠ j) : q ≠ r := fun z => hij (a.2.2.1 i j (q, e) (r, f) hi hj z)
theorem xNs.old (a : xNs L h0 h1) {b : Nat} (hb : h0 b ≠ Option.none) : h1 b = h0 b := a.2.2.2 b (fun k p hk z => hb (by rw [z]; exact a.2.1 k p hk))
theorem xNs.push (a : xNs L h0 h1) {q : Nat} (e : va_E) (hq : h1 q = Option.none) : xNs ((q, e) :: L) h0 (hset h1 q e) := by
  have hn : ∀ (k : Nat) (p : Nat × va_E), L[k]? = some p → p.1 ≠ q := fun k p hk z => by
    have h9 := a.1 k p hk
    rw [z, hq] at h9
    cases h9
  have h0q : h0 q = Option.none := by rw [← a.2.2.2 q (fun k p hk z => hn k p hk z.symm)]; exact hq
  refine ⟨fun k p hk => ?_, fun k p hk => ?_, fun i j p r hi hj z => ?_, fun b hb => ?_⟩
  · cases k with
    | zero => cases hk; exact hset_s
    | succ k => rw [hset_n (hn k p hk)]; exact a.1 k p hk
  · cases k with
    | zero => cases hk; exact h0q
    | succ k => exact a.2.1 k p hk
  · cases i with
    | zero =>
      cases j with
      | zero => rfl
      | succ j => cases hi; exact absurd z.symm (hn j r hj)
    | succ i =>
      cases j with
      | zero => cases hj; exact absurd z (hn i p hi)
      | succ j => rw [a.2.2.1 i j p r hi hj z]
  · have h1' : b ≠ q := hb 0 (q, e) rfl
    rw [hset_n h1']
    exact a.2.2.2 b (fun k p hk => hb (k + 1) p hk)
theorem xNs.set (a : xNs L h0 h1) {k q : Nat} {e0 : va_E} (e : va_E) (hk : L[k]? = some (q, e0)) : xNs (L.set k (q, e)) h0 (hset h1 q e) := by
  have hl := (List.getElem?_eq_some_iff.mp hk).1
  have key : ∀ (j : Nat) (p : Nat × va_E), (L.set k (q, e))[j]? = some p → (j = k ∧ p = (q, e)) ∨ (j ≠ k ∧ L[j]? = some p) := fun j p hj => by
    by_cases hjk : j = k
    · subst hjk
      rw [List.getElem?_set_self hl] at hj
      cases hj
      exact Or.inl ⟨rfl, rfl⟩
    · rw [List.getElem?_set_ne (Ne.symm hjk)] at hj
      exact Or.inr ⟨hjk, hj⟩
  refine ⟨fun j p hj => ?_, fun j p hj => ?_, fun i j p r hi hj z => ?_, fun b hb => ?_⟩
  · rcases key j p hj with ⟨h9, h8⟩ | ⟨h9, h8⟩
    · rw [h8]; exact hset_s
    · rw [hset_n (fun z => h9 (a.2.2.1 j k p (q, e0) h8 hk z))]; exact a.1 j p h8
  · rcases key j p hj with ⟨h9, h8⟩ | ⟨h9, h8⟩
    · rw [h8]; exact a.2.1 k (q, e0) hk
    · exact a.2.1 j p h8
  · rcases key i p hi with ⟨h9, h8⟩ | ⟨h9, h8⟩ <;> rcases key j r hj with ⟨g9, g8⟩ | ⟨g9, g8⟩
    · rw [h9, g9]
    · rw [h8] at z; rw [h9]; exact a.2.2.1 k j (q, e0) r hk g8 z
    · rw [g8] at z; rw [g9]; exact a.2.2.1 i k p (q, e0) h8 hk z
    · exact a.2.2.1 i j p r h8 g8 z
  · have hbq : b ≠ q := hb k (q, e) (List.getElem?_set_self hl)
    rw [hset_n hbq]
    refine a.2.2.2 b (fun j p hj => ?_)
    by_cases hjk : j = k
    · subst hjk; rw [hk] at hj; cases hj; exact hbq
    · exact hb j p (by rw [List.getElem?_set_ne (Ne.symm hjk)]; exact hj)
/-- one behind the others -/
theorem xNs.snoc (a : xNs L h0 h1) {q : Nat} (e : va_E) (hq : h1 q = Option.none) : xNs (L ++ [(q, e)]) h0 (hset h1 q e) := by
  have hn : ∀ (k : Nat) (p : Nat × va_E), L[k]? = some p → p.1 ≠ q := fun k p hk z => by
    have h9 := a.1 k p hk
    rw [z, hq] at h9
    cases h9
  have h0q : h0 q = Option.none := by rw [← a.2.2.2 q (fun k p hk z => hn k p hk z.symm)]; exact hq
  have key : ∀ (j : Nat) (p : Nat × va_E), (L ++ [(q, e)])[j]? = some p → (j = L.length ∧ p = (q, e)) ∨ (j < L.length ∧ L[j]? = some p) := fun j p hj => by
    by_cases hl : j < L.length
    · rw [List.getElem?_append_left hl] at hj; exact Or.inr ⟨hl, hj⟩
    · rw [List.getElem?_append_right (by omega)] at hj
      have hz : j - L.length < 1 := (List.getElem?_eq_some_iff.mp hj).1
      have hz0 : j - L.length = 0 := by omega
      rw [hz0] at hj
      cases hj
      exact Or.inl ⟨by omega, rfl⟩
  refine ⟨fun j p hj => ?_, fun j p hj => ?_, fun i j p r hi hj z => ?_, fun b hb => ?_⟩
  · rcases key j p hj with ⟨h9, h8⟩ | ⟨h9, h8⟩
    · rw [h8]; exact hset_s
    · rw [hset_n (hn j p h8)]; exact a.1 j p h8
  · rcases key j p hj with ⟨h9, h8⟩ | ⟨h9, h8⟩
    · rw [h8]; exact h0q
    · exact a.2.1 j p h8
  · rcases key i p hi with ⟨h9, h8⟩ | ⟨h9, h8⟩ <;> rcases key j r hj with ⟨g9, g8⟩ | ⟨g9, g8⟩
    · rw [h9, g9]
    · rw [h8] at z; exact absurd z.symm (hn j r g8)
    · rw [g8] at z; exact absurd z (hn i p h8)
    · exact a.2.2.1 i j p r h8 g8 z
  · have hbq : b ≠ q := hb L.length (q, e) (by rw [List.getElem?_append_right (Nat.le_refl _)]; simp)
    rw [hset_n hbq]
    exact a.2.2.2 b (fun k p hk => hb k p (by rw [List.getElem?_append_left (List.getElem?_eq_some_iff.mp hk).1]; exact hk))
/-- an old cell anew, on both sides -/
theorem xNs.both (a : xNs L h0 h1) {q : Nat} (e : va_E) (hq : h0 q ≠ Option.none) : xNs L (hset h0 q e) (hset h1 q e) := by
  have hn : ∀ (k : Nat) (p : Nat × va_E), L[k]? = some p → p.1 ≠ q := fun k p hk z => hq (by rw [← z]; exact a.2.1 k p hk)
  refine ⟨fun k p hk => ?_, fun k p hk => ?_, a.2.2.1, fun b hb => ?_⟩
  · rw [hset_n (hn k p hk)]; exact a.1 k p hk
  · rw [hset_n (hn k p hk)]; exact a.2.1 k p hk
  · by_cases hbq : b = q
    · rw [hbq, hset_s, hset_s]
    · rw [hset_n hbq, hset_n hbq]; exact a.2.2.2 b hb
end XNS
theorem hset_hset {h : XW} {a : Nat} {e1 e2 : va_E} : hset (hset h a e1) a e2 = hset h a e2 := by
  funext b
  by_cases hb : b = a
  · rw [hb, hset_s, hset_s]
  · rw [hset_n hb, hset_n hb, hset_n hb]
theorem hset_id {h : XW} {a : Nat} {e : va_E} (he : h a = some e) : hset h a e = h := by
  funext b
  by_cases hb : b = a
  · rw [hb, hset_s, he]
  · rw [hset_n hb]
section RCN
variable {E : Nat → ClassId} {Pr : Nat → Prop} {τ : CT} {ad : Nat → Nat → Nat} {fa : Nat → Nat → Option Nat} {h h0 h1 : XW} {L : List (Nat × va_E)}
theorem RC.keepN (hR : RC E Pr τ ad fa h) (hN : xNs L h h1) : RC E Pr τ ad fa h1 :=
  ⟨fun K i hl => by rw [hN.old (hR.isS hl)]; exact hR.1 K i hl, hR.2.1, hR.2.2.1, fun b hb => by rw [hN.old (hR.2.2.2.1 b hb)]; exact hR.2.2.2.1 b hb, hR.2.2.2.2⟩
theorem cF.keepN (hF : cF Pr h0 h) (hP : ∀ q, Pr q → h q ≠ none) (hN : xNs L h h1) : cF Pr h0 h1 := fun b hb => by rw [hN.old (hP b hb)]; exact hF b hb
theorem RC.newN (hR : RC E Pr τ ad fa h) (hN : xNs L h h1) {k q : Nat} {e : va_E} (hk : L[k]? = some (q, e)) : (∀ K i, clive τ K i → ad K i ≠ q) ∧ ¬ Pr q := hR.new (hN.none hk)
end RCN
section XCW
variable {p : Program} {l : Launch} {e : Env} {R : Room} {s : State} {m : MethodId} {args : Array Value} {below : List Frame} {meth : Method} {c : Code} {H : Heap} {locs : List Loc} {cells slots : Nat} {Q : State → Prop}
variable {cc : ByteArray} {pc : Nat} {ls : Array Slot} {rest st0 : List Value} {D : va_G} {E : Nat → ClassId} {h h0 : XW} {lo a n i : Nat} {H0 : Heap} {Ts : List Cond} {post : Option Value → XW → Prop}
/-- an array of references, new -/
theorem xnewq {own C : String} {index N t : Nat} (hx : p.tables.exec = Jvm.exec) (hb : c.code = cc) (hts : ∀ w ∈ Ts, w.before args s = true) (hown : s.vm.findClass own = some m.cls) (hcl : Cond.classLink own index C ∈ Ts) (hover : va_AO C s) (I : XI lo D E h s H) (hS : va_S (xA lo) H0 H locs) (ht : (xtys E)[t]? = some (E t, .object C)) (hN : N < 2 ^ 31) (hbytes : N * 4 ≤ 536870912) (hcells : cells + 1 ≤ R.cells) (hslots : slots + N ≤ R.slots) (hdg : decode cc pc = .ok (.anewarray index, 3))
    (kk : ∀ (q : Nat) (H1 : Heap), h q = none → lo ≤ q → XI lo D E (hset h q (.inl (E t, N, .inr (.inr (.inr (.inr (fun _ => none))))))) s H1 → va_S (xA lo) H0 H1 locs → W p l e R s m args below meth c H1 locs (cells + 1) (slots + N) Q (F0 m (pc + 3) ls (.ref q :: rest))) : W p l e R s m args below meth c H locs cells slots Q (F0 m pc ls (.int (nI N) :: rest)) := by
  refine va_newq (ws := xw h H.size) (A := fun q => lo ≤ q ∧ True) (H0 := H) hx hb hown (hts _ hcl) hover I.2.2.2.1 (xw_P I.2.2.1 _) (xD0 I _) (xS0 hS) (fun q hq => ⟨Nat.le_trans I.1 hq, trivial⟩) (nI_pos hN) (nI_clamp hN) hbytes hcells hslots hdg (fun q cA H1 hK hP1 hD1 hS1 => ?_)
  have hcA : cA = E t := by
    have h1 := (hK.2 (xtys E).length (cA, .object C) (by rw [List.getElem?_append_right (Nat.le_refl _)]; simp)).2
    obtain ⟨_, _, _, _, _, h2⟩ := h1
    obtain ⟨_, _, _, _, _, h3⟩ := (I.2.2.2.1.2 t _ ht).2
    exact Option.some.inj (h2.symm.trans h3)
  subst hcA
  obtain ⟨h1, h2, h3, h4⟩ := xnewed I hS hP1 hD1 hS1
  exact kk q H1 h1 h2 h3 h4
theorem xalen {x : vp_A} {ty : FieldType} {N t : Nat} (hx : p.tables.exec = Jvm.exec) (hb : c.code = cc) (I : XI lo D E h s H) (ha : h a = some (.inl (E t, x))) (ht : (xtys E)[t]? = some (E t, ty)) (hN : x.1 = N) (hdg : decode cc pc = .ok (.arraylength, 1)) (kk : W p l e R s m args below meth c H locs cells slots Q (F0 m (pc + 1) ls (.int (nI N) :: rest))) : W p l e R s m args below meth c H locs cells slots Q (F0 m pc ls (.ref a :: rest)) :=
  va_alen (ws := [(a, .inl (E t, x))]) hx hb I.2.2.2.1 (xone I.2.2.1 ha) 0 t rfl ht (by rw [hN]; rfl) hdg kk
theorem xoi {own : String} {idx : Nat} (hx : p.tables.exec = Jvm.exec) (hb : c.code = cc) (hts : ∀ w ∈ Ts, w.before args s = true) (hown : s.vm.findClass own = some m.cls) (h1 : Cond.methodLink own idx Lib.objectInit ∈ Ts) (h2 : Cond.instanceMethod Lib.objectInit ∈ Ts) (h3 : Cond.code Lib.objectInit ⟨#[0xb1]⟩ 1 none ∈ Ts) (hsize : ls.size = c.maxLocals) (hd : decode cc pc = .ok (.invokespecial idx, 3)) (hframes : 1 ≤ R.frames) (hlocals : (rest.map fun v => v.category).sum + 12 ≤ R.locals)
    (kk : W p l e R s m args below meth c H locs cells slots Q (F0 m (pc + 3) ls rest)) : W p l e R s m args below meth c H locs cells slots Q (F0 m pc ls (.ref a :: rest)) :=
  W.objInit hx hb hown (hts _ h1) (hts _ h2) (hts _ h3) rfl hsize rfl hd hframes (by show 2 * 0 + _ + 12 ≤ _; omega) kk
end XCW
section XCL
variable {p : Program} {l : Launch} {e : Env} {R : Room} {s : State} {m : MethodId} {args : Array Value} {below : List Frame} {meth : Method} {c : Code} {H : Heap} {locs : List Loc} {cells slots : Nat} {Q : State → Prop}
variable {cc : ByteArray} {pc : Nat} {ls : Array Slot} {rest st0 : List Value} {D : va_G} {E : Nat → ClassId} {h h0 : XW} {lo a n i : Nat} {H0 : Heap} {Ts : List Cond} {L : List (Nat × va_E)}
theorem xnewaN {a0 : va_E} {N t : Nat} {ty : FieldType} {x : vp_A} {atype : ArrayType} (hx : p.tables.exec = Jvm.exec) (hb : c.code = cc) (hts : ∀ w ∈ Ts, w.before args s = true) (harr : Cond.arrayClass ty ∈ Ts) (hty : newarray.typeOf atype = ty) (I : XI lo D E h s H) (hN0 : xNs L h0 h) (hS : va_S (xA lo) H0 H locs) (ht : (xtys E)[t]? = some (E t, ty)) (hp : ∀ C, ty ≠ .object C) (ha : ∀ cA : ClassId, vp_cell cA x = arrV cA N (fun _ => defaultValue ty)) (hN : N < 2 ^ 31) (hbytes : N * componentBytes ty ≤ 536870912) (hcells : cells + 1 ≤ R.cells) (hslots : slots + N ≤ R.slots) (hdg : decode cc pc = .ok (.newarray atype, 2))
    (kk : ∀ (q : Nat) (H1 : Heap) (h1 : XW), XI lo D E h1 s H1 → xNs ((q, .inl (E t, x)) :: L) h0 h1 → va_S (xA lo) H0 H1 locs → W p l e R s m args below meth c H1 locs (cells + 1) (slots + N) Q (F0 m (pc + 2) ls (.ref q :: rest))) : W p l e R s m args below meth c H locs cells slots Q (F0 m pc ls (.int (nI N) :: rest)) :=
  xnewa (a0 := .inl (0, x)) hx hb hts harr hty I hS ht hp ha hN hbytes hcells hslots hdg (fun q H1 hq _ I1 S1 => kk q H1 _ I1 (hN0.push _ hq) S1)
theorem xnewqN {own C : String} {index N t : Nat} (hx : p.tables.exec = Jvm.exec) (hb : c.code = cc) (hts : ∀ w ∈ Ts, w.before args s = true) (hown : s.vm.findClass own = some m.cls) (hcl : Cond.classLink own index C ∈ Ts) (hover : va_AO C s) (I : XI lo D E h s H) (hN0 : xNs L h0 h) (hS : va_S (xA lo) H0 H locs) (ht : (xtys E)[t]? = some (E t, .object C)) (hN : N < 2 ^ 31) (hbytes : N * 4 ≤ 536870912) (hcells : cells + 1 ≤ R.cells) (hslots : slots + N ≤ R.slots) (hdg : decode cc pc = .ok (.anewarray index, 3))
    (kk : ∀ (q : Nat) (H1 : Heap) (h1 : XW), XI lo D E h1 s H1 → xNs ((q, .inl (E t, N, .inr (.inr (.inr (.inr (fun _ => none)))))) :: L) h0 h1 → va_S (xA lo) H0 H1 locs → W p l e R s m args below meth c H1 locs (cells + 1) (slots + N) Q (F0 m (pc + 3) ls (.ref q :: rest))) : W p l e R s m args below meth c H locs cells slots Q (F0 m pc ls (.int (nI N) :: rest)) :=
  xnewq hx hb hts hown hcl hover I hS ht hN hbytes hcells hslots hdg (fun q H1 hq _ I1 S1 => kk q H1 _ I1 (hN0.push _ hq) S1)
theorem xnewL {own C : String} {T : u_T} {N ci index : Nat} {fs : List Value} (hx : p.tables.exec = Jvm.exec) (hb : c.code = cc) (hts : ∀ w ∈ Ts, w.before args s = true) (hin : ∀ w ∈ u_ws C T N, w ∈ Ts) (ty : Nat → FieldType) (hty : ∀ k, k < N → parseFieldDescriptor (T k).2.2.1 = some (ty k)) (hown : s.vm.findClass own = some m.cls) (hcl : Cond.classLink own index C ∈ Ts) (hinst : Cond.instantiable C N ∈ Ts) (hini : Cond.initialized C ∈ Ts) (I : XI lo D E h s H) (hN0 : xNs L h0 h) (hS : va_S (xA lo) H0 H locs) (hc : vwCl[ci]? = some (C, T, N)) (hfs : ∀ j, j < N → defaultValue (ty j) = vp_V fs j) (hcells : cells + 1 ≤ R.cells) (hslots : slots + N ≤ R.slots) (hdg : decode cc pc = .ok (.new index, 3))
    (kk : ∀ (q : Nat) (H1 : Heap) (h1 : XW), XI lo D E h1 s H1 → xNs ((q, .inr (ci, fs)) :: L) h0 h1 → va_S (xA lo) H0 H1 locs → W p l e R s m args below meth c H1 locs (cells + 1) (slots + N) Q (F0 m (pc + 3) ls (.ref q :: rest))) : W p l e R s m args below meth c H locs cells slots Q (F0 m pc ls rest) :=
  xnew hx hb hts hin ty hty hown hcl hinst hini I hS hc hfs hcells hslots hdg (fun q H1 hq _ I1 S1 => kk q H1 _ I1 (hN0.push _ hq) S1)
theorem xputFL {own C : String} {T : u_T} {N ci index : Nat} {fs : List Value} {v : Value} {ty : FieldType} (k j : Nat) (hx : p.tables.exec = Jvm.exec) (hb : c.code = cc) (hts : ∀ w ∈ Ts, w.before args s = true) (hin : ∀ w ∈ u_ws C T N, w ∈ Ts) (ty0 : Nat → FieldType) (hty : ∀ k, k < N → parseFieldDescriptor (T k).2.2.1 = some (ty0 k)) (hnm : ∀ a, a < N → ∀ b, b < N → a ≠ b → (T a).2.1 ≠ (T b).2.1) (hown : s.vm.findClass own = some m.cls) (I : XI lo D E h s H) (hS : va_S (xA lo) H0 H locs) (hN0 : xNs L h0 h) (ha : L[j]? = some (a, .inr (ci, fs))) (hc : vwCl[ci]? = some (C, T, N)) (hk : k < N) (hlink : Cond.fieldLink own index C (T k).2.1 (T k).2.2.1 ∈ Ts) (hfst : (T k).1 = C) (hfin : (T k).2.2.2 = true) (hin2 : meth.name = "<init>") (hdecl : (T k).1 = own) (hd : parseFieldDescriptor (T k).2.2.1 = some ty) (hn : narrow ty v = v) (hfit : fits ty v = true) (hl : k < fs.length) (hdg : decode cc pc = .ok (.putfield index, 3))
    (kk : ∀ (H1 : Heap) (locs1 : List Loc) (h1 : XW), XI lo D E h1 s H1 → xNs (L.set j (a, .inr (ci, fs.set k v))) h0 h1 → va_S (xA lo) H0 H1 locs1 → W p l e R s m args below meth c H1 locs1 cells slots Q (F0 m (pc + 3) ls rest)) : W p l e R s m args below meth c H locs cells slots Q (F0 m pc ls (v :: .ref a :: rest)) :=
  xputF k hx hb hts hin ty0 hty hnm hown I hS (hN0.get ha) hc hk hlink hfst hfin hin2 hdecl hd hn hfit hl hdg (fun H1 locs1 I1 S1 => kk H1 locs1 _ I1 (hN0.set _ ha) S1)
theorem xputL {own C : String} {T : u_T} {N ci index : Nat} {fs : List Value} {v : Value} {ty : FieldType} (k j : Nat) (hx : p.tables.exec = Jvm.exec) (hb : c.code = cc) (hts : ∀ w ∈ Ts, w.before args s = true) (hin : ∀ w ∈ u_ws C T N, w ∈ Ts) (ty0 : Nat → FieldType) (hty : ∀ k, k < N → parseFieldDescriptor (T k).2.2.1 = some (ty0 k)) (hnm : ∀ a, a < N → ∀ b, b < N → a ≠ b → (T a).2.1 ≠ (T b).2.1) (hown : s.vm.findClass own = some m.cls) (I : XI lo D E h s H) (hS : va_S (xA lo) H0 H locs) (hN0 : xNs L h0 h) (ha : L[j]? = some (a, .inr (ci, fs))) (hc : vwCl[ci]? = some (C, T, N)) (hk : k < N) (hlink : Cond.fieldLink own index C (T k).2.1 (T k).2.2.1 ∈ Ts) (hfst : (T k).1 = C) (hfin : (T k).2.2.2 = false) (hd : parseFieldDescriptor (T k).2.2.1 = some ty) (hn : narrow ty v = v) (hfit : fits ty v = true) (hl : k < fs.length) (hdg : decode cc pc = .ok (.putfield index, 3))
    (kk : ∀ (H1 : Heap) (locs1 : List Loc) (h1 : XW), XI lo D E h1 s H1 → xNs (L.set j (a, .inr (ci, fs.set k v))) h0 h1 → va_S (xA lo) H0 H1 locs1 → W p l e R s m args below meth c H1 locs1 cells slots Q (F0 m (pc + 3) ls rest)) : W p l e R s m args below meth c H locs cells slots Q (F0 m pc ls (v :: .ref a :: rest)) :=
  xput k hx hb hts hin ty0 hty hnm hown I hS (hN0.get ha) hc hk hlink hfst hfin hd hn hfit hl hdg (fun H1 locs1 I1 S1 => kk H1 locs1 _ I1 (hN0.set _ ha) S1)
theorem xiastL {f : Nat → Int32} {x : Int32} (j : Nat) (hx : p.tables.exec = Jvm.exec) (hb : c.code = cc) (I : XI lo D E h s H) (hS : va_S (xA lo) H0 H locs) (hN0 : xNs L h0 h) (ha : L[j]? = some (a, .inl (E 0, n, .inl f))) (hi : i < n) (hn : n < 2 ^ 31) (hdg : decode cc pc = .ok (.iastore, 1))
    (kk : ∀ (H1 : Heap) (locs1 : List Loc) (h1 : XW), XI lo D E h1 s H1 → xNs (L.set j (a, .inl (E 0, n, .inl (upd f i x)))) h0 h1 → va_S (xA lo) H0 H1 locs1 → W p l e R s m args below meth c H1 locs1 cells slots Q (F0 m (pc + 1) ls rest)) : W p l e R s m args below meth c H locs cells slots Q (F0 m pc ls (.int x :: .int (nI i) :: .ref a :: rest)) :=
  xiast hx hb I hS (hN0.get ha) hi hn hdg (fun H1 locs1 I1 S1 => kk H1 locs1 _ I1 (hN0.set _ ha) S1)
theorem xaastL {f : Nat → Option Nat} {r : vw_C} {v ci : Nat} {vs : List Value} (t j jv : Nat) (hx : p.tables.exec = Jvm.exec) (hb : c.code = cc) (I : XI lo D E h s H) (hS : va_S (xA lo) H0 H locs) (hN0 : xNs L h0 h) (ha : L[j]? = some (a, .inl (E t, n, .inr (.inr (.inr (.inr f)))))) (ht : (xtys E)[t]? = some (E t, .object r.1)) (hv : L[jv]? = some (v, .inr (ci, vs))) (hc : vwCl[ci]? = some r) (hi : i < n) (hn : n < 2 ^ 31) (hdg : decode cc pc = .ok (.aastore, 1))
    (kk : ∀ (H1 : Heap) (locs1 : List Loc) (h1 : XW), XI lo D E h1 s H1 → xNs (L.set j (a, .inl (E t, n, .inr (.inr (.inr (.inr (va_up f i (some v)))))))) h0 h1 → va_S (xA lo) H0 H1 locs1 → W p l e R s m args below meth c H1 locs1 cells slots Q (F0 m (pc + 1) ls rest)) : W p l e R s m args below meth c H locs cells slots Q (F0 m pc ls (.ref v :: .int (nI i) :: .ref a :: rest)) :=
  xaast t hx hb I hS (hN0.get ha) ht (hN0.get hv) hc hi hn hdg (fun H1 locs1 I1 S1 => kk H1 locs1 _ I1 (hN0.set _ ha) S1)
end XCL
def xfil (v : Int32) (f : Nat → Int32) (k : Nat) : Nat → Int32 := fun j => if j < k then v else f j
theorem xfil_0 {v : Int32} {f : Nat → Int32} : xfil v f 0 = f := by funext j; simp [xfil]
theorem xfil_s {v : Int32} {f : Nat → Int32} {k : Nat} : upd (xfil v f k) k v = xfil v f (k + 1) := by
  funext j
  by_cases h1 : j = k
  · subst h1; simp [upd, xfil]
  · by_cases h2 : j < k
    · have h3 : j < k + 1 := by omega
      simp [upd, xfil, h1, h2, h3]
    · have h3 : ¬ j < k + 1 := by omega
      simp [upd, xfil, h1, h2, h3]
def xdel (h : XW) (a : Nat) : XW := fun b => if b = a then none else h b
theorem xNs.solo {h : XW} {a : Nat} {e : va_E} (ha : h a = some e) : xNs [(a, e)] (xdel h a) h :=
  ⟨fun k p hk => by
    cases k with
    | zero => cases hk; exact ha
    | succ k => simp at hk,
  fun k p hk => by
    cases k with
    | zero => cases hk; simp [xdel]
    | succ k => simp at hk,
  fun i j p r hi hj _ => by
    cases i with
    | zero => cases j with
      | zero => rfl
      | succ j => simp at hj
    | succ i => simp at hi,
  fun b hb => by
    have hne : b ≠ a := hb 0 (a, e) rfl
    simp [xdel, hne]⟩
theorem xNs.solo' {h h1 : XW} {a : Nat} {e : va_E} (hN : xNs [(a, e)] (xdel h a) h1) : h1 = hset h a e := by
  funext b
  by_cases hb : b = a
  · rw [hb, hset_s]; exact hN.get (k := 0) rfl
  · rw [hset_n hb, hN.2.2.2 b (fun k p hk => by
      cases k with
      | zero => cases hk; exact hb
      | succ k => simp at hk)]
    simp [xdel, hb]
def XAw (U : State) : Prop := va_Nw (.methodLinkNest RX7 52 yX6_init RX7) U ∧ ∀ C ∈ [RX3, RX5, RX1, RX0, RX2, RX6], va_AO C U
theorem XAw.warm {s U : State} (hW : s.WarmedH U.vm) (h : XAw s) : XAw U := ⟨va_Nw.warmM hW h.1, fun C hC => va_AO.moved hW.alike (h.2 C hC)⟩
theorem XAw.same {s U : State} (hv : U.vm = s.vm) (h : XAw s) : XAw U := by
  have hA : s.vm.Alike U.vm := by rw [hv]; exact Vm.Alike.refl s.vm
  exact ⟨va_Nw.same rfl hv.symm h.1, fun C hC => va_AO.moved hA (h.2 C hC)⟩
section XCI
variable {p : Program} {l : Launch} {e : Env} {R : Room} {s : State} {m : MethodId} {args : Array Value} {below : List Frame} {meth : Method} {c : Code} {H : Heap} {locs : List Loc} {cells slots : Nat} {Q : State → Prop}
variable {cc : ByteArray} {pc : Nat} {ls : Array Slot} {rest st0 : List Value} {D : va_G} {E : Nat → ClassId} {h h0 : XW} {lo a n i : Nat} {H0 : Heap} {Ts : List Cond} {post : Option Value → XW → Prop} {L : List (Nat × va_E)}
theorem xcsQ {y : MethodName} {bytes : ByteArray} {maxL nL na index mc ms : Nat} {ret : Option FieldType} {ws : List Cond} {rm : Room} {own : String} {As : List Value} (S : CallFix p m c cc nL s args Ts own) (hM : Met l y ws rm (xP lo D E h As) (xQ lo D post) mc ms (xA lo)) (cw : CallB R s args own index y bytes maxL ret ws rm mc ms na ∧ (Cond.static y).before args s = true) (I : XI lo D E h s H) (hS : va_S (xA lo) H0 H locs) (hn : As.length = na) (hsize : ls.size = nL) (hst : st0 = As.reverse ++ rest) (hW : (rest.map fun v => v.category).sum ≤ 8) (hdg : decode cc pc = .ok (.invokestatic index, 3)) (hf : cells + mc ≤ R.cells ∧ slots + ms ≤ R.slots)
    (kk : ∀ (v : Option Value) (h2 : XW) (H1 : Heap) (locs1 : List Loc), post v h2 → XI lo D E h2 s H1 → va_S (xA lo) H0 H1 locs1 → W p l e R s m args below meth c H1 locs1 (cells + mc) (slots + ms) Q (F0 m (pc + 3) ls (v.toList ++ rest))) : W p l e R s m args below meth c H locs cells slots Q (F0 m pc ls st0) :=
  xcQ (va_runS (As := As) (rest := rest) S hM cw ⟨xP_blind, fun U hU hW => ⟨rfl, by show XI lo D E h U U.heap; rw [hU]; exact XI.warm hW I⟩⟩ rfl hn hsize hst (lv_room hW) hdg hf) I hS kk
theorem xciN {y : MethodName} {bytes : ByteArray} {maxL nL na index mc ms : Nat} {ws : List Cond} {rm : Room} {own host : String} {b : Addr} {As : List Value} (S : CallFix p m c cc nL s args Ts own) (hM : Met l y ws rm (xP lo D E h (.ref b :: As)) (xQ lo D post) mc ms (xA lo)) (cw : va_CN R s args own index y host bytes maxL none ws rm mc ms na ∧ y.name = "<init>" ∧ (Cond.instanceMethod y).before args s = true) (I : XI lo D E h s H) (hS : va_S (xA lo) H0 H locs) (hn : As.length = na) (hsize : ls.size = nL) (hst : st0 = As.reverse ++ .ref b :: rest) (hW : (rest.map fun v => v.category).sum ≤ 8) (hdg : decode cc pc = .ok (.invokespecial index, 3)) (hf : cells + mc ≤ R.cells ∧ slots + ms ≤ R.slots)
    (kk : ∀ (v : Option Value) (h2 : XW) (H1 : Heap) (locs1 : List Loc), post v h2 → XI lo D E h2 s H1 → va_S (xA lo) H0 H1 locs1 → W p l e R s m args below meth c H1 locs1 (cells + mc) (slots + ms) Q (F0 m (pc + 3) ls (v.toList ++ rest))) : W p l e R s m args below meth c H locs cells slots Q (F0 m pc ls st0) :=
  xcQ (va_runIN (As := As) (rest := rest) S hM cw ⟨xP_blind, fun U hU hW => ⟨rfl, by show XI lo D E h U U.heap; rw [hU]; exact XI.warm hW I⟩⟩ rfl hn hsize hst (lv_room hW) hdg hf) I hS kk
theorem xnewS {own C : String} {T : u_T} {N ci index : Nat} {fs : List Value} (hx : p.tables.exec = Jvm.exec) (hb : c.code = cc) (hts : ∀ w ∈ Ts, w.before args s = true) (hin : ∀ w ∈ u_ws C T N, w ∈ Ts) (ty : Nat → FieldType) (hty : ∀ k, k < N → parseFieldDescriptor (T k).2.2.1 = some (ty k)) (hown : s.vm.findClass own = some m.cls) (hcl : Cond.classLink own index C ∈ Ts) (hinst : Cond.instantiable C N ∈ Ts) (hini : Cond.initialized C ∈ Ts) (I : XI lo D E h s H) (hN0 : xNs L h0 h) (hS : va_S (xA lo) H0 H locs) (hc : vwCl[ci]? = some (C, T, N)) (hfs : ∀ j, j < N → defaultValue (ty j) = vp_V fs j) (hcells : cells + 1 ≤ R.cells) (hslots : slots + N ≤ R.slots) (hdg : decode cc pc = .ok (.new index, 3))
    (kk : ∀ (q : Nat) (H1 : Heap) (h1 : XW), XI lo D E h1 s H1 → xNs (L ++ [(q, .inr (ci, fs))]) h0 h1 → va_S (xA lo) H0 H1 locs → W p l e R s m args below meth c H1 locs (cells + 1) (slots + N) Q (F0 m (pc + 3) ls (.ref q :: rest))) : W p l e R s m args below meth c H locs cells slots Q (F0 m pc ls rest) :=
  xnew hx hb hts hin ty hty hown hcl hinst hini I hS hc hfs hcells hslots hdg (fun q H1 hq _ I1 S1 => kk q H1 _ I1 (hN0.snoc _ hq) S1)
end XCI
theorem xys_up {ys : List Nat} {k q : Nat} (hk : ys.length = k) : (fun j => (ys ++ [q])[j]?) = va_up (fun j => ys[j]?) k (some q) := by
  funext j
  by_cases h1 : j = k
  · subst hk; subst h1; simp [va_up]
  · by_cases h2 : j < ys.length
    · simp [va_up, h1, List.getElem?_append_left h2]
    · have h3 : ys.length < j := by omega
      rw [List.getElem?_append_right (by omega)]
      have h4 : j - ys.length ≠ 0 := by omega
      have h5 : ys[j]? = none := List.getElem?_eq_none (by omega)
      simp only [va_up, h1, if_false, h5]
      cases h6 : j - ys.length with
      | zero => exact absurd h6 h4
      | succ z => simp
