/-! lists of new cells beside an old world -/
def xNs (L : List (Nat × va_E)) (h0 h1 : XW) : Prop :=
  (∀ (k : Nat) (p : Nat × va_E), L[k]? = some p → h1 p.1 = some p.2) ∧ (∀ (k : Nat) (p : Nat × va_E), L[k]? = some p → h0 p.1 = none) ∧
  (∀ (i j : Nat) (p r : Nat × va_E), L[i]? = some p → L[j]? = some r → p.1 = r.1 → i = j) ∧ (∀ b : Nat, (∀ (k : Nat) (p : Nat × va_E), L[k]? = some p → b ≠ p.1) → h1 b = h0 b)
section XNS
variable {L : List (Nat × va_E)} {h0 h1 : XW}
theorem xNs.nil {h : XW} : xNs [] h h := ⟨fun k p hk => by simp at hk, fun k p hk => by simp at hk, fun i j p r hk => by simp at hk, fun _ _ => rfl⟩
theorem xNs.get (a : xNs L h0 h1) {k q : Nat} {e : va_E} (hk : L[k]? = some (q, e)) : h1 q = some e := a.1 k (q, e) hk
theorem xNs.none (a : xNs L h0 h1) {k q : Nat} {e : va_E} (hk : L[k]? = some (q, e)) : h0 q = Option.none := a.2.1 k (q, e) hk
theorem xNs.ne (a : xNs L h0 h1) {i j q r : Nat} {e f : va_E} (hi : L[i]? = some (q, e)) (hj : L[j]? = some (r, f)) (hij : i ≠ j) : q ≠ r := fun z => hij (a.2.2.1 i j (q, e) (r, f) hi hj z)
theorem xNs.old (a : xNs L h0 h1) {b : Nat} (hb : h0 b ≠ Option.none) : h1 b = h0 b := a.2.2.2 b (fun k p hk z => hb (by rw [z]; exact a.2.1 k p hk))
theorem xNs.push (a : xNs L h0 h1) {q : Nat} (e : va_E) (hq : h1 q = Option.none) : xNs ((q, e) :: L) h0 (hset h1 q e) := by
  have hn : ∀ (k : Nat) (p : Nat × va_E), L[k]? = some p → p.1 ≠ q := fun k p hk z => by
    have h9 := a.1 k p hk
    rw [z, hq] at h9
    cases h9
  have h0q : h0 q = Option.none := by rw [← a.2.2.2 q (fun k p hk z => hn k p hk z.symm)]; exact hq
  refine ⟨fun k p hk => ?_, fun k p hk => ?_, fun i j p r hi hj z => ?_, fun b hb => ?_⟩
  · cases k with
    | zero => cases hk; exact hset_s
    | succ k => rw [hset_n (hn k p hk)]; exact a.1 k p hk
  · cases k with
    | zero => cases hk; exact h0q
    | succ k => exact a.2.1 k p hk
  · cases i with
    | zero =>
      cases j with
      | zero => rfl
      | succ j => cases hi; exact absurd z.symm (hn j r hj)
    | succ i =>
      cases j with
      | zero => cases hj; exact absurd z (hn i p hi)
      | succ j => rw [a.2.2.1 i j p r hi hj z]
  · have h1' : b ≠ q := hb 0 (q, e) rfl
    rw [hset_n h1']
    exact a.2.2.2 b (fun k p hk => hb (k + 1) p hk)
theorem xNs.set (a : xNs L h0 h1) {k q : Nat} {e0 : va_E} (e : va_E) (hk : L[k]? = some (q, e0)) : xNs (L.set k (q, e)) h0 (hset h1 q e) := by
  have hl := (List.getElem?_eq_some_iff.mp hk).1
  have key : ∀ (j : Nat) (p : Nat × va_E), (L.set k (q, e))[j]? = some p → (j = k ∧ p = (q, e)) ∨ (j ≠ k ∧ L[j]? = some p) := fun j p hj => by
    by_cases hjk : j = k
    · subst hjk
      rw [List.getElem?_set_self hl] at hj
      cases hj
      exact Or.inl ⟨rfl, rfl⟩
    · rw [List.getElem?_set_ne (Ne.symm hjk)] at hj
      exact Or.inr ⟨hjk, hj⟩
  refine ⟨fun j p hj => ?_, fun j p hj => ?_, fun i j p r hi hj z => ?_, fun b hb => ?_⟩
  · rcases key j p hj with ⟨h9, h8⟩ | ⟨h9, h8⟩
    · rw [h8]; exact hset_s
    · rw [hset_n (fun z => h9 (a.2.2.1 j k p (q, e0) h8 hk z))]; exact a.1 j p h8
  · rcases key j p hj with ⟨h9, h8⟩ | ⟨h9, h8⟩
    · rw [h8]; exact a.2.1 k (q, e0) hk
    · exact a.2.1 j p h8
  · rcases key i p hi with ⟨h9, h8⟩ | ⟨h9, h8⟩ <;> rcases key j r hj with ⟨g9, g8⟩ | ⟨g9, g8⟩
    · rw [h9, g9]
    · rw [h8] at z; rw [h9]; exact a.2.2.1 k j (q, e0) r hk g8 z
    · rw [g8] at z; rw [g9]; exact a.2.2.1 i k p (q, e0) h8 hk z
    · exact a.2.2.1 i j p r h8 g8 z
  · have hbq : b ≠ q := hb k (q, e) (List.getElem?_set_self hl)
    rw [hset_n hbq]
    refine a.2.2.2 b (fun j p hj => ?_)
    by_cases hjk : j = k
    · subst hjk; rw [hk] at hj; cases hj; exact hbq
    · exact hb j p (by rw [List.getElem?_set_ne (Ne.symm hjk)]; exact hj)
/-- one behind the others -/
theorem xNs.snoc (a : xNs L h0 h1) {q : Nat} (e : va_E) (hq : h1 q = Option.none) : xNs (L ++ [(q, e)]) h0 (hset h1 q e) := by
  have hn : ∀ (k : Nat) (p : Nat × va_E), L[k]? = some p → p.1 ≠ q := fun k p hk z => by
    have h9 := a.1 k p hk
    rw [z, hq] at h9
    cases h9
  have h0q : h0 q = Option.none := by rw [← a.2.2.2 q (fun k p hk z => hn k p hk z.symm)]; exact hq
  have key : ∀ (j : Nat) (p : Nat × va_E), (L ++ [(q, e)])[j]? = some p → (j = L.length ∧ p = (q, e)) ∨ (j < L.length ∧ L[j]? = some p) := fun j p hj => by
    by_cases hl : j < L.length
    · rw [List.getElem?_append_left hl] at hj; exact Or.inr ⟨hl, hj⟩
    · rw [List.getElem?_append_right (by omega)] at hj
      have hz : j - L.length < 1 := (List.getElem?_eq_some_iff.mp hj).1
      have hz0 : j - L.length = 0 := by omega
      rw [hz0] at hj
      cases hj
      exact Or.inl ⟨by omega, rfl⟩
  refine ⟨fun j p hj => ?_, fun j p hj => ?_, fun i j p r hi hj z => ?_, fun b hb => ?_⟩
  · rcases key j p hj with ⟨h9, h8⟩ | ⟨h9, h8⟩
    · rw [h8]; exact hset_s
    · rw [hset_n (hn j p h8)]; exact a.1 j p h8
  · rcases key j p hj with ⟨h9, h8⟩ | ⟨h9, h8⟩
    · rw [h8]; exact h0q
    · exact a.2.1 j p h8
  · rcases key i p hi with ⟨h9, h8⟩ | ⟨h9, h8⟩ <;> rcases key j r hj with ⟨g9, g8⟩ | ⟨g9, g8⟩
    · rw [h9, g9]
    · rw [h8] at z; exact absurd z.symm (hn j r g8)
    · rw [g8] at z; exact absurd z (hn i p h8)
    · exact a.2.2.1 i j p r h8 g8 z
  · have hbq : b ≠ q := hb L.length (q, e) (by rw [List.getElem?_append_right (Nat.le_refl _)]; simp)
    rw [hset_n hbq]
    exact a.2.2.2 b (fun k p hk => hb k p (by rw [List.getElem?_append_left (List.getElem?_eq_some_iff.mp hk).1]; exact hk))
/-- an old cell anew, on both sides -/
theorem xNs.both (a : xNs L h0 h1) {q : Nat} (e : va_E) (hq : h0 q ≠ Option.none) : xNs L (hset h0 q e) (hset h1 q e) := by
  have hn : ∀ (k : Nat) (p : Nat × va_E), L[k]? = some p → p.1 ≠ q := fun k p hk z => hq (by rw [← z]; exact a.2.1 k p hk)
  refine ⟨fun k p hk => ?_, fun k p hk => ?_, a.2.2.1, fun b hb => ?_⟩
  · rw [hset_n (hn k p hk)]; exact a.1 k p hk
  · rw [hset_n (hn k p hk)]; exact a.2.1 k p hk
  · by_cases hbq : b = q
    · rw [hbq, hset_s, hset_s]
    · rw [hset_n hbq, hset_n hbq]; exact a.2.2.2 b hb
end XNS
theorem hset_hset {h : XW} {a : Nat} {e1 e2 : va_E} : hset (hset h a e1) a e2 = hset h a e2 := by
  funext b
  by_cases hb : b = a
  · rw [hb, hset_s, hset_s]
  · rw [hset_n hb, hset_n hb, hset_n hb]
theorem hset_id {h : XW} {a : Nat} {e : va_E} (he : h a = some e) : hset h a e = h := by
  funext b
  by_cases hb : b = a
  · rw [hb, hset_s, he]
  · rw [hset_n hb]
section RCN
variable {E : Nat → ClassId} {Pr : Nat → Prop} {τ : CT} {ad : Nat → Nat → Nat} {fa : Nat → Nat → Option Nat} {h h0 h1 : XW} {L : List (Nat × va_E)}
theorem RC.keepN (hR : RC E Pr τ ad fa h) (hN : xNs L h h1) : RC E Pr τ ad fa h1 :=
  ⟨fun K i hl => by rw [hN.old (hR.isS hl)]; exact hR.1 K i hl, hR.2.1, hR.2.2.1, fun b hb => by rw [hN.old (hR.2.2.2.1 b hb)]; exact hR.2.2.2.1 b hb, hR.2.2.2.2⟩
theorem cF.keepN (hF : cF Pr h0 h) (hP : ∀ q, Pr q → h q ≠ none) (hN : xNs L h h1) : cF Pr h0 h1 := fun b hb => by rw [hN.old (hP b hb)]; exact hF b hb
theorem RC.newN (hR : RC E Pr τ ad fa h) (hN : xNs L h h1) {k q : Nat} {e : va_E} (hk : L[k]? = some (q, e)) : (∀ K i, clive τ K i → ad K i ≠ q) ∧ ¬ Pr q := hR.new (hN.none hk)
end RCN
section XCW
variable {p : Program} {l : Launch} {e : Env} {R : Room} {s : State} {m : MethodId} {args : Array Value} {below : List Frame} {meth : Method} {c : Code} {H : Heap} {locs : List Loc} {cells slots : Nat} {Q : State → Prop}
variable {cc : ByteArray} {pc : Nat} {ls : Array Slot} {rest st0 : List Value} {D : va_G} {E : Nat → ClassId} {h h0 : XW} {lo a n i : Nat} {H0 : Heap} {Ts : List Cond} {post : Option Value → XW → Prop}
/-- an array of references, new -/
theorem xnewq {own C : String} {index N t : Nat} (hx : p.tables.exec = Jvm.exec) (hb : c.code = cc) (hts : ∀ w ∈ Ts, w.before args s = true) (hown : s.vm.findClass own = some m.cls) (hcl : Cond.classLink own index C ∈ Ts) (hover : va_AO C s) (I : XI lo D E h s H) (hS : va_S (xA lo) H0 H locs) (ht : (xtys E)[t]? = some (E t, .object C)) (hN : N < 2 ^ 31) (hbytes : N * 4 ≤ 536870912) (hcells : cells + 1 ≤ R.cells) (hslots : slots + N ≤ R.slots) (hdg : decode cc pc = .ok (.anewarray index, 3))
    (kk : ∀ (q : Nat) (H1 : Heap), h q = none → lo ≤ q → XI lo D E (hset h q (.inl (E t, N, .inr (.inr (.inr (.inr (fun _ => none))))))) s H1 → va_S (xA lo) H0 H1 locs → W p l e R s m args below meth c H1 locs (cells + 1) (slots + N) Q (F0 m (pc + 3) ls (.ref q :: rest))) : W p l e R s m args below meth c H locs cells slots Q (F0 m pc ls (.int (nI N) :: rest)) := by
  refine va_newq (ws := xw h H.size) (A := fun q => lo ≤ q ∧ True) (H0 := H) hx hb hown (hts _ hcl) hover I.2.2.2.1 (xw_P I.2.2.1 _) (xD0 I _) (xS0 hS) (fun q hq => ⟨Nat.le_trans I.1 hq, trivial⟩) (nI_pos hN) (nI_clamp hN) hbytes hcells hslots hdg (fun q cA H1 hK hP1 hD1 hS1 => ?_)
  have hcA : cA = E t := by
    have h1 := (hK.2 (xtys E).length (cA, .object C) (by rw [List.getElem?_append_right (Nat.le_refl _)]; simp)).2
    obtain ⟨_, _, _, _, _, h2⟩ := h1
    obtain ⟨_, _, _, _, _, h3⟩ := (I.2.2.2.1.2 t _ ht).2
    exact Option.some.inj (h2.symm.trans h3)
  subst hcA
  obtain ⟨h1, h2, h3, h4⟩ := xnewed I hS hP1 hD1 hS1
  exact kk q H1 h1 h2 h3 h4
theorem xalen {x : vp_A} {ty : FieldType} {N t : Nat} (hx : p.tables.exec = Jvm.exec) (hb : c.code = cc) (I : XI lo D E h s H) (ha : h a = some (.inl (E t, x))) (ht : (xtys E)[t]? = some (E t, ty)) (hN : x.1 = N) (hdg : decode cc pc = .ok (.arraylength, 1)) (kk : W p l e R s m args below meth c H locs cells slots Q (F0 m (pc + 1) ls (.int (nI N) :: rest))) : W p l e R s m args below meth c H locs cells slots Q (F0 m pc ls (.ref a :: rest)) :=
  va_alen (ws := [(a, .inl (E t, x))]) hx hb I.2.2.2.1 (xone I.2.2.1 ha) 0 t rfl ht (by rw [hN]; rfl) hdg kk
theorem xoi {own : String} {idx : Nat} (hx : p.tables.exec = Jvm.exec) (hb : c.code = cc) (hts : ∀ w ∈ Ts, w.before args s = true) (hown : s.vm.findClass own = some m.cls) (h1 : Cond.methodLink own idx Lib.objectInit ∈ Ts) (h2 : Cond.instanceMethod Lib.objectInit ∈ Ts) (h3 : Cond.code Lib.objectInit ⟨#[0xb1]⟩ 1 none ∈ Ts) (hsize : ls.size = c.maxLocals) (hd : decode cc pc = .ok (.invokespecial idx, 3)) (hframes : 1 ≤ R.frames) (hlocals : (rest.map fun v => v.category).sum + 12 ≤ R.locals)
    (kk : W p l e R s m args below meth c H locs cells slots Q (F0 m (pc + 3) ls rest)) : W p l e R s m args below meth c H locs cells slots Q (F0 m pc ls (.ref a :: rest)) :=
  W.objInit hx hb hown (hts _ h1) (hts _ h2) (hts _ h3) rfl hsize rfl hd hframes (by show 2 * 0 + _ + 12 ≤ _; omega) kk
end XCW
