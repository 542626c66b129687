/-! new things: constructors, fresh cells, the picture that grows -/
def xN (q : Nat) (e : va_E) (h h1 : XW) : Prop := h1 q = some e ∧ ∀ b, b ≠ q → h1 b = h b
theorem xN.put {q : Nat} {e e2 : va_E} {h h1 : XW} (a : xN q e h h1) : xN q e2 h (hset h1 q e2) := ⟨hset_s, fun b hb => by rw [hset_n hb]; exact a.2 b hb⟩
section XCT
variable {p : Program} {l : Launch} {e : Env} {R : Room} {s : State} {m : MethodId} {args : Array Value} {below : List Frame} {meth : Method} {c : Code} {H : Heap} {locs : List Loc} {cells slots : Nat} {Q : State → Prop}
variable {cc : ByteArray} {pc : Nat} {ls : Array Slot} {rest st0 : List Value} {D : va_G} {E : Nat → ClassId} {h h0 : XW} {lo a n i : Nat} {H0 : Heap} {Ts : List Cond} {post : Option Value → XW → Prop}
theorem xputF {own C : String} {T : u_T} {N ci index : Nat} {fs : List Value} {v : Value} {ty : FieldType} (k : Nat) (hx : p.tables.exec = Jvm.exec) (hb : c.code = cc) (hts : ∀ w ∈ Ts, w.before args s = true) (hin : ∀ w ∈ u_ws C T N, w ∈ Ts) (ty0 : Nat → FieldType) (hty : ∀ k, k < N → parseFieldDescriptor (T k).2.2.1 = some (ty0 k)) (hnm : ∀ a, a < N → ∀ b, b < N → a ≠ b → (T a).2.1 ≠ (T b).2.1) (hown : s.vm.findClass own = some m.cls) (I : XI lo D E h s H) (hS : va_S (xA lo) H0 H locs) (ha : h a = some (.inr (ci, fs))) (hc : vwCl[ci]? = some (C, T, N)) (hk : k < N) (hlink : Cond.fieldLink own index C (T k).2.1 (T k).2.2.1 ∈ Ts) (hfst : (T k).1 = C) (hfin : (T k).2.2.2 = true) (hin2 : meth.name = "<init>") (hdecl : (T k).1 = own) (hd : parseFieldDescriptor (T k).2.2.1 = some ty) (hn : narrow ty v = v) (hfit : fits ty v = true) (hl : k < fs.length) (hdg : decode cc pc = .ok (.putfield index, 3))
    (kk : ∀ (H1 : Heap) (locs1 : List Loc), XI lo D E (hset h a (.inr (ci, fs.set k v))) s H1 → va_S (xA lo) H0 H1 locs1 → W p l e R s m args below meth c H1 locs1 cells slots Q (F0 m (pc + 3) ls rest)) : W p l e R s m args below meth c H locs cells slots Q (F0 m pc ls (v :: .ref a :: rest)) := by
  obtain ⟨q0, hq⟩ := xw_get (I.lt a _ ha) ha
  refine va_putF (A := fun q => lo ≤ q ∧ True) (H0 := H) (ws := xw h H.size) (locs := locs) hx hb hts hin ty0 hty hnm hown I.2.2.2.1 (xw_P I.2.2.1 _) (xD0 I _) (xS0 hS) q0 hq hc k hk (hts _ hlink) (fun x hx => by rw [hfst] at hx; exact hx) hfin hin2 hdecl hd hn hfit hl hdg (fun H1 locs1 hP1 _ hS1 => ?_)
  obtain ⟨I1, S1⟩ := xst I hS ha hq hP1 hS1
  exact kk H1 locs1 I1 S1
/-- in a constructor: the object that is made, alone -/
theorem xputNF {own C : String} {T : u_T} {N ci index : Nat} {fs : List Value} {v : Value} {ty : FieldType} (k : Nat) (hx : p.tables.exec = Jvm.exec) (hb : c.code = cc) (hts : ∀ w ∈ Ts, w.before args s = true) (hin : ∀ w ∈ u_ws C T N, w ∈ Ts) (ty0 : Nat → FieldType) (hty : ∀ k, k < N → parseFieldDescriptor (T k).2.2.1 = some (ty0 k)) (hnm : ∀ a, a < N → ∀ b, b < N → a ≠ b → (T a).2.1 ≠ (T b).2.1) (hown : s.vm.findClass own = some m.cls) (I : XI lo D E h s H) (hS : va_S (xA lo) H0 H locs) (ha : xN a (.inr (ci, fs)) h0 h) (hc : vwCl[ci]? = some (C, T, N)) (hk : k < N) (hlink : Cond.fieldLink own index C (T k).2.1 (T k).2.2.1 ∈ Ts) (hfst : (T k).1 = C) (hfin : (T k).2.2.2 = true) (hin2 : meth.name = "<init>") (hdecl : (T k).1 = own) (hd : parseFieldDescriptor (T k).2.2.1 = some ty) (hn : narrow ty v = v) (hfit : fits ty v = true) (hl : k < fs.length) (hdg : decode cc pc = .ok (.putfield index, 3))
    (kk : ∀ (H1 : Heap) (locs1 : List Loc) (h1 : XW), XI lo D E h1 s H1 → xN a (.inr (ci, fs.set k v)) h0 h1 → va_S (xA lo) H0 H1 locs1 → W p l e R s m args below meth c H1 locs1 cells slots Q (F0 m (pc + 3) ls rest)) : W p l e R s m args below meth c H locs cells slots Q (F0 m pc ls (v :: .ref a :: rest)) :=
  xputF k hx hb hts hin ty0 hty hnm hown I hS ha.1 hc hk hlink hfst hfin hin2 hdecl hd hn hfit hl hdg (fun H1 locs1 I1 S1 => kk H1 locs1 _ I1 ha.put S1)
theorem xputN {own C : String} {T : u_T} {N ci index : Nat} {fs : List Value} {v : Value} {ty : FieldType} (k : Nat) (hx : p.tables.exec = Jvm.exec) (hb : c.code = cc) (hts : ∀ w ∈ Ts, w.before args s = true) (hin : ∀ w ∈ u_ws C T N, w ∈ Ts) (ty0 : Nat → FieldType) (hty : ∀ k, k < N → parseFieldDescriptor (T k).2.2.1 = some (ty0 k)) (hnm : ∀ a, a < N → ∀ b, b < N → a ≠ b → (T a).2.1 ≠ (T b).2.1) (hown : s.vm.findClass own = some m.cls) (I : XI lo D E h s H) (hS : va_S (xA lo) H0 H locs) (ha : xN a (.inr (ci, fs)) h0 h) (hc : vwCl[ci]? = some (C, T, N)) (hk : k < N) (hlink : Cond.fieldLink own index C (T k).2.1 (T k).2.2.1 ∈ Ts) (hfst : (T k).1 = C) (hfin : (T k).2.2.2 = false) (hd : parseFieldDescriptor (T k).2.2.1 = some ty) (hn : narrow ty v = v) (hfit : fits ty v = true) (hl : k < fs.length) (hdg : decode cc pc = .ok (.putfield index, 3))
    (kk : ∀ (H1 : Heap) (locs1 : List Loc) (h1 : XW), XI lo D E h1 s H1 → xN a (.inr (ci, fs.set k v)) h0 h1 → va_S (xA lo) H0 H1 locs1 → W p l e R s m args below meth c H1 locs1 cells slots Q (F0 m (pc + 3) ls rest)) : W p l e R s m args below meth c H locs cells slots Q (F0 m pc ls (v :: .ref a :: rest)) :=
  xput k hx hb hts hin ty0 hty hnm hown I hS ha.1 hc hk hlink hfst hfin hd hn hfit hl hdg (fun H1 locs1 I1 S1 => kk H1 locs1 _ I1 ha.put S1)
/-- a constructor's call -/
theorem xciQ {y : MethodName} {bytes : ByteArray} {maxL nL na index mc ms : Nat} {ws : List Cond} {rm : Room} {own : String} {b : Addr} {As : List Value} (S : CallFix p m c cc nL s args Ts own) (hM : Met l y ws rm (xP lo D E h (.ref b :: As)) (xQ lo D post) mc ms (xA lo)) (cw : CallB R s args own index y bytes maxL none ws rm mc ms na ∧ y.name = "<init>" ∧ (Cond.instanceMethod y).before args s = true) (I : XI lo D E h s H) (hS : va_S (xA lo) H0 H locs) (hn : As.length = na) (hsize : ls.size = nL) (hst : st0 = As.reverse ++ .ref b :: rest) (hW : (rest.map fun v => v.category).sum ≤ 8) (hdg : decode cc pc = .ok (.invokespecial index, 3)) (hf : cells + mc ≤ R.cells ∧ slots + ms ≤ R.slots)
    (kk : ∀ (v : Option Value) (h2 : XW) (H1 : Heap) (locs1 : List Loc), post v h2 → XI lo D E h2 s H1 → va_S (xA lo) H0 H1 locs1 → W p l e R s m args below meth c H1 locs1 (cells + mc) (slots + ms) Q (F0 m (pc + 3) ls (v.toList ++ rest))) : W p l e R s m args below meth c H locs cells slots Q (F0 m pc ls st0) :=
  xcQ (va_runI (As := As) (rest := rest) S hM cw ⟨xP_blind, fun U hU hW => ⟨rfl, by show XI lo D E h U U.heap; rw [hU]; exact XI.warm hW I⟩⟩ rfl hn hsize hst (lv_room hW) hdg hf) I hS kk
theorem xE_arr (I : XI lo D E h s H) {cA : ClassId} {ty : FieldType} {t : Nat} (ht : (xtys E)[t]? = some (E t, ty)) (hp : ∀ C, ty ≠ .object C) (hc : s.vm.findClass ("[" ++ ty.toString) = some cA) : cA = E t := by
  have h1 := (I.2.2.2.1.2 t _ ht).2
  cases ty with
  | object C => exact absurd rfl (hp C)
  | _ => exact Option.some.inj (hc.symm.trans h1)
theorem xnewa {a0 : va_E} {N t : Nat} {ty : FieldType} {x : vp_A} {atype : ArrayType} (hx : p.tables.exec = Jvm.exec) (hb : c.code = cc) (hts : ∀ w ∈ Ts, w.before args s = true) (harr : Cond.arrayClass ty ∈ Ts) (hty : newarray.typeOf atype = ty) (I : XI lo D E h s H) (hS : va_S (xA lo) H0 H locs) (ht : (xtys E)[t]? = some (E t, ty)) (hp : ∀ C, ty ≠ .object C) (ha : ∀ cA : ClassId, vp_cell cA x = arrV cA N (fun _ => defaultValue ty)) (hN : N < 2 ^ 31) (hbytes : N * componentBytes ty ≤ 536870912) (hcells : cells + 1 ≤ R.cells) (hslots : slots + N ≤ R.slots) (hdg : decode cc pc = .ok (.newarray atype, 2))
    (kk : ∀ (q : Nat) (H1 : Heap), h q = none → lo ≤ q → XI lo D E (hset h q (.inl (E t, x))) s H1 → va_S (xA lo) H0 H1 locs → W p l e R s m args below meth c H1 locs (cells + 1) (slots + N) Q (F0 m (pc + 2) ls (.ref q :: rest))) : W p l e R s m args below meth c H locs cells slots Q (F0 m pc ls (.int (nI N) :: rest)) := by
  refine va_newa (ws := xw h H.size) (A := fun q => lo ≤ q ∧ True) (H0 := H) hx hb (by rw [hty]; exact hts _ harr) hty I.2.2.2.1 (xw_P I.2.2.1 _) (xD0 I _) (xS0 hS) (fun q hq => ⟨Nat.le_trans I.1 hq, trivial⟩) ha (nI_pos hN) (nI_clamp hN) hbytes hcells hslots hdg (fun q cA H1 hK hP1 hD1 hS1 => ?_)
  have hcA : cA = E t := by
    have h1 := (hK.2 (xtys E).length (cA, ty) (by rw [List.getElem?_append_right (Nat.le_refl _)]; simp)).2
    refine xE_arr I ht hp ?_
    cases ty with
    | object C => exact absurd rfl (hp C)
    | _ => exact h1
  subst hcA
  obtain ⟨h1, h2, h3, h4⟩ := xnewed I hS hP1 hD1 hS1
  exact kk q H1 h1 h2 h3 h4
end XCT
section RCG
variable {E : Nat → ClassId} {Pr : Nat → Prop} {τ : CT} {ad : Nat → Nat → Nat} {fa : Nat → Nat → Option Nat} {h : XW}
theorem RC.isS (hR : RC E Pr τ ad fa h) {K i : Nat} (hl : clive τ K i) : h (ad K i) ≠ none := by rw [hR.1 K i hl]; exact fun z => by cases z
/-- what is in no picture may change -/
theorem RC.keep (hR : RC E Pr τ ad fa h) {h1 : XW} {q : Nat} (hq : ∀ K i, clive τ K i → ad K i ≠ q) (hp : ¬ Pr q) (hk : ∀ b, h b ≠ none → b ≠ q → h1 b = h b) : RC E Pr τ ad fa h1 :=
  ⟨fun K i hl => by rw [hk _ (hR.isS hl) (hq K i hl)]; exact hR.1 K i hl, hR.2.1, hR.2.2.1, fun b hb => by
    rw [hk b (hR.2.2.2.1 b hb) (fun z => hp (z ▸ hb))]; exact hR.2.2.2.1 b hb, hR.2.2.2.2⟩
theorem RC.new (hR : RC E Pr τ ad fa h) {q : Nat} (hq : h q = none) : (∀ K i, clive τ K i → ad K i ≠ q) ∧ ¬ Pr q := ⟨fun K i hl z => hR.isS hl (by rw [z]; exact hq), fun z => hR.2.2.2.1 q z hq⟩
theorem RC.fresh (hR : RC E Pr τ ad fa h) {q : Nat} (hq : h q = none) (e : va_E) : RC E Pr τ ad fa (hset h q e) := hR.keep (hR.new hq).1 (hR.new hq).2 (fun b _ hb => hset_n hb)
/-- an array of references, at a place behind those that count -/
def fset (fa : Nat → Nat → Option Nat) (k j : Nat) (x : Option Nat) : Nat → Nat → Option Nat := fun a b => if a = k ∧ b = j then x else fa a b
theorem RC.store (hR : RC E Pr τ ad fa h) {k j : Nat} (x : Option Nat) {e : va_E} (hk : k = 1 ∧ cN τ 0 ≤ j ∨ k = 2 ∧ cN τ 1 ≤ j ∨ k = 3 ∧ cN τ 2 ≤ j ∨ k = 4 ∧ cN τ 3 ≤ j ∨ k = 5 ∧ cN τ 4 ≤ j) (he : e = cO E τ ad (fset fa k j x) k 0) : RC E Pr τ ad (fset fa k j x) (hset h (ad k 0) e) := by
  have hl : clive τ k 0 := by rcases hk with ⟨rfl, _⟩ | ⟨rfl, _⟩ | ⟨rfl, _⟩ | ⟨rfl, _⟩ | ⟨rfl, _⟩ <;> rfl
  have hO : ∀ K i, clive τ K i → K ≠ k → cO E τ ad (fset fa k j x) K i = cO E τ ad fa K i := by
    intro K i hl hne
    have hf : ∀ K, K ≠ k → fset fa k j x K = fa K := fun K hK => by funext b; simp [fset, hK]
    match K, hl, hne with
    | 0, _, _ => rfl
    | 1, _, hne => simp [cO, hf 1 hne]
    | 2, _, hne => simp [cO, hf 2 hne]
    | 3, _, hne => simp [cO, hf 3 hne]
    | 4, _, hne => simp [cO, hf 4 hne]
    | 5, _, hne => simp [cO, hf 5 hne]
    | 6, _, hne => simp [cO, hf 6 hne]
    | 7, _, _ => rfl
    | 8, _, _ => rfl
    | 9, _, _ => rfl
    | 10, _, _ => rfl
    | 11, _, _ => rfl
    | 12, _, _ => rfl
    | 13, _, _ => rfl
    | 14, _, _ => rfl
    | 15, _, _ => rfl
    | 16, _, _ => rfl
    | 17, _, _ => rfl
    | 18, _, _ => rfl
  refine ⟨fun K i q => ?_, hR.2.1, hR.2.2.1, fun q hq => ?_, ?_⟩
  · by_cases hK : K = k
    · have hi : i = 0 := by
        subst hK
        rcases hk with ⟨rfl, _⟩ | ⟨rfl, _⟩ | ⟨rfl, _⟩ | ⟨rfl, _⟩ | ⟨rfl, _⟩ <;> exact q
      rw [hK, hi, hset_s, he]
    · rw [hset_n (fun z => hK (hR.2.1 K i k 0 q hl z).1), hO K i q hK]
      exact hR.1 K i q
  · by_cases hz : q = ad k 0
    · rw [hz, hset_s]; exact fun z => by cases z
    · rw [hset_n hz]; exact hR.2.2.2.1 q hq
  · obtain ⟨f1, f2, f3, f4, f5, f6⟩ := hR.2.2.2.2
    refine ⟨fun b hb => ?_, fun b hb => ?_, fun b hb => ?_, fun b hb => ?_, fun b hb => ?_, fun b hb => ?_⟩
    · rw [← f1 b hb]; exact if_neg (fun z => by omega)
    · rw [← f2 b hb]; exact if_neg (fun z => by omega)
    · rw [← f3 b hb]; exact if_neg (fun z => by omega)
    · rw [← f4 b hb]; exact if_neg (fun z => by omega)
    · rw [← f5 b hb]; exact if_neg (fun z => by omega)
    · rw [← f6 b hb]; exact if_neg (fun z => by omega)
/-- the picture grows: the object's count anew, and with it cells that lay ready -/
theorem RC.grow (hR : RC E Pr τ ad fa h) {τ1 : CT} {ad1 : Nat → Nat → Nat} {e0 : va_E} (he : e0 = cO E τ1 ad1 fa 0 0)
    (hmono : ∀ K i, clive τ K i → clive τ1 K i)
    (hq : ∀ K i, clive τ1 K i → ¬ clive τ K i → h (ad1 K i) = some (cO E τ1 ad1 fa K i) ∧ (∀ K' i', clive τ K' i' → ad K' i' ≠ ad1 K i) ∧ ¬ Pr (ad1 K i))
    (hinj : ∀ K i K' i', clive τ1 K i → ¬ clive τ K i → clive τ1 K' i' → ¬ clive τ K' i' → ad1 K i = ad1 K' i' → K = K' ∧ i = i')
    (hold : ∀ K i, clive τ K i → ad1 K i = ad K i ∧ (K ≠ 0 → cO E τ1 ad1 fa K i = cO E τ ad fa K i))
    (hfa : (∀ j, j < cN τ1 0 → fa 1 j = some (ad1 10 j)) ∧ (∀ j, j < cN τ1 1 → fa 2 j = some (ad1 14 j)) ∧ (∀ j, j < cN τ1 2 → fa 3 j = some (ad1 15 j)) ∧ (∀ j, j < cN τ1 3 → fa 4 j = some (ad1 16 j)) ∧ (∀ j, j < cN τ1 4 → fa 5 j = some (ad1 17 j)) ∧ (∀ j, j < 20 → fa 6 j = some (ad1 18 j))) : RC E Pr τ1 ad1 fa (hset h (ad 0 0) e0) := by
  have h00 : clive τ 0 0 := rfl
  refine ⟨fun K i q => ?_, fun K i K' i' q1 q2 z => ?_, fun K i q => ?_, fun q hq1 => ?_, hfa⟩
  · by_cases hl : clive τ K i
    · rw [(hold K i hl).1]
      by_cases hK : K = 0
      · subst hK
        have hi : i = 0 := hl
        subst hi
        rw [hset_s, he]
      · rw [hset_n (fun z => hK (hR.2.1 K i 0 0 hl h00 z).1), (hold K i hl).2 hK]
        exact hR.1 K i hl
    · rw [hset_n (fun z => (hq K i q hl).2.1 0 0 h00 z.symm)]
      exact (hq K i q hl).1
  · by_cases hl : clive τ K i <;> by_cases hl' : clive τ K' i'
    · rw [(hold K i hl).1, (hold K' i' hl').1] at z; exact hR.2.1 K i K' i' hl hl' z
    · rw [(hold K i hl).1] at z; exact absurd z ((hq K' i' q2 hl').2.1 K i hl)
    · rw [(hold K' i' hl').1] at z; exact absurd z.symm ((hq K i q1 hl).2.1 K' i' hl')
    · exact hinj K i K' i' q1 hl q2 hl' z
  · by_cases hl : clive τ K i
    · rw [(hold K i hl).1]; exact hR.2.2.1 K i hl
    · exact (hq K i q hl).2.2
  · by_cases hz : q = ad 0 0
    · rw [hz, hset_s]; exact fun z => by cases z
    · rw [hset_n hz]; exact hR.2.2.2.1 q hq1
theorem cF.keep {h0 h1 : XW} {q : Nat} (hF : cF Pr h0 h) (hR : RC E Pr τ ad fa h) (hq : h q = none) (hk : ∀ b, h b ≠ none → b ≠ q → h1 b = h b) : cF Pr h0 h1 := fun b hb => by
  rw [hk b (hR.2.2.2.1 b hb) (fun z => (hR.new hq).2 (z ▸ hb))]
  exact hF b hb
end RCG
