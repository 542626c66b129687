/-! my base: a world is a function from addresses to cells; rows over it out of the kit's rows -/
abbrev XW : Type := Nat → Option va_E
def hset (h : XW) (a : Nat) (e : va_E) : XW := fun q => if q = a then some e else h q
theorem hset_s {h : XW} {a : Nat} {e : va_E} : hset h a e a = some e := by simp [hset]
theorem hset_n {h : XW} {a b : Nat} {e : va_E} (hb : b ≠ a) : hset h a e b = h b := by simp [hset, hb]
def xw (h : XW) (n : Nat) : va_W := (List.range n).filterMap (fun q => (h q).map (fun e => (q, e)))
theorem xw_mem {h : XW} {n a : Nat} {e : va_E} : (a, e) ∈ xw h n ↔ a < n ∧ h a = some e := by
  constructor
  · intro hm
    obtain ⟨q, hq, hx⟩ := List.mem_filterMap.mp hm
    cases hh : h q with
    | none => rw [hh] at hx; cases hx
    | some e1 =>
      rw [hh] at hx
      cases hx
      exact ⟨List.mem_range.mp hq, hh⟩
  · intro ⟨h1, h2⟩
    exact List.mem_filterMap.mpr ⟨a, List.mem_range.mpr h1, by rw [h2]; rfl⟩
theorem xw_get {h : XW} {n a : Nat} {e : va_E} (h1 : a < n) (h2 : h a = some e) : ∃ k : Nat, (xw h n)[k]? = some (a, e) := List.getElem?_of_mem (xw_mem.mpr ⟨h1, h2⟩)
theorem xw_of {h : XW} {n k : Nat} {q : Nat × va_E} (hk : (xw h n)[k]? = some q) : q.1 < n ∧ h q.1 = some q.2 := xw_mem.mp (List.mem_of_getElem? hk)
theorem xw_succ (h : XW) (n : Nat) : xw h (n + 1) = xw h n ++ ((h n).map (fun e => (n, e))).toList := by
  unfold xw
  rw [List.range_succ, List.filterMap_append]
  cases hh : h n <;> simp [hh]
theorem xw_inj (h : XW) : ∀ (n i j : Nat) (x y : Nat × va_E), (xw h n)[i]? = some x → (xw h n)[j]? = some y → x.1 = y.1 → i = j
  | 0, i, j, x, y, h1, _, _ => by simp [xw] at h1
  | n + 1, i, j, x, y, h1, h2, hxy => by
    rw [xw_succ] at h1 h2
    have key : ∀ (k : Nat) (z : Nat × va_E), (xw h n ++ ((h n).map (fun e => (n, e))).toList)[k]? = some z → (k < (xw h n).length ∧ (xw h n)[k]? = some z ∧ z.1 < n) ∨ (k = (xw h n).length ∧ z.1 = n) := by
      intro k z hk
      by_cases hl : k < (xw h n).length
      · rw [List.getElem?_append_left hl] at hk
        exact Or.inl ⟨hl, hk, (xw_of hk).1⟩
      · rw [List.getElem?_append_right (by omega)] at hk
        cases hh : h n with
        | none => rw [hh] at hk; simp at hk
        | some e =>
          rw [hh] at hk
          have hz : k - (xw h n).length < 1 := (List.getElem?_eq_some_iff.mp hk).1
          have h0 : k - (xw h n).length = 0 := by omega
          rw [h0] at hk
          cases hk
          exact Or.inr ⟨by omega, rfl⟩
    rcases key i x h1 with ⟨a1, a2, a3⟩ | ⟨a1, a2⟩ <;> rcases key j y h2 with ⟨b1, b2, b3⟩ | ⟨b1, b2⟩
    · exact xw_inj h n i j x y a2 b2 hxy
    · omega
    · omega
    · omega
theorem xw_D {h : XW} {n : Nat} {A : Nat → Prop} (hA : ∀ a e, h a = some e → A a) : va_D A (xw h n) := ⟨xw_inj h n, fun _ q hk => hA q.1 q.2 (xw_of hk).2⟩
theorem xw_P {D : va_G} {cl : List vw_C} {h : XW} {H : Heap} (hP : ∀ a e, h a = some e → va_at D cl (a, e) H) (n : Nat) : va_P D cl (xw h n) H := fun _ q hk => hP q.1 q.2 (xw_of hk).2
/-- one cell anew -/
theorem xw_set {D : va_G} {cl : List vw_C} {h : XW} {n k a : Nat} {e0 e : va_E} {H1 : Heap} (hn : ∀ b e, h b = some e → b < n) (hk : (xw h n)[k]? = some (a, e0)) (hP : va_P D cl ((xw h n).set k (a, e)) H1) : ∀ b x, hset h a e b = some x → va_at D cl (b, x) H1 := by
  have hl := (List.getElem?_eq_some_iff.mp hk).1
  intro b x hx
  by_cases hb : b = a
  · subst hb
    rw [hset_s] at hx
    cases hx
    exact hP k (b, e) (List.getElem?_set_self hl)
  · rw [hset_n hb] at hx
    obtain ⟨j, hj⟩ := xw_get (hn b x hx) hx
    have hjk : j ≠ k := by
      intro z
      subst z
      rw [hk] at hj
      cases hj
      exact hb rfl
    exact hP j (b, x) (by rw [List.getElem?_set_ne (Ne.symm hjk)]; exact hj)
/-- a cell more -/
theorem xw_push {D : va_G} {cl : List vw_C} {h : XW} {n a : Nat} {e : va_E} {H1 : Heap} (hn : ∀ b e, h b = some e → b < n) (hP : va_P D cl ((xw h n) ++ [(a, e)]) H1) : ∀ b x, hset h a e b = some x → va_at D cl (b, x) H1 := by
  intro b x hx
  by_cases hb : b = a
  · subst hb
    rw [hset_s] at hx
    cases hx
    exact hP (xw h n).length (b, e) (by rw [List.getElem?_append_right (Nat.le_refl _)]; simp)
  · rw [hset_n hb] at hx
    obtain ⟨j, hj⟩ := xw_get (hn b x hx) hx
    exact hP j (b, x) (by rw [List.getElem?_append_left (List.getElem?_eq_some_iff.mp hj).1]; exact hj)
def xtys (E : Nat → ClassId) : List (ClassId × FieldType) := [(E 0, .int), (E 1, .long), (E 2, .boolean), (E 3, .object "CallClub$Member"), (E 4, .object "CallClub$Ship"), (E 5, .object "CallClub$Entry"), (E 6, .object "CallClub$Claim"), (E 7, .object "CallClub$Event"), (E 8, .object "CallClub$Year")]
def xlits : List (Nat × String) := [(59, "there are 12 members"), (76, "there are 24 ships"), (89, "the ship is entered"), (106, "the member was released for this year"), (111, "60 entries were told"), (116, "the ship is not entered"), (124, "the day would be above 1999"), (133, "the member was released in the year"), (175, "the day is not that of the event"), (212, "the limitation of the claim is broken"), (246, "someone was released in the year"), (254, "all further hundredths would be above 1000"), (260, "the member has a ship entered"), (273, "there is no open year to release the member of"), (287, "the member owes nothing"), (332, "there is no such member"), (335, "there is no such ship"), (337, "there is no such claim"), (342, "there is no such event"), (344, "an argument is out of its range"), (346, "the year is closed"), (348, "the claim is settled"), (350, "there are too many claims"), (352, "the year is not over"), (354, "a year ahead of it is not closed"), (356, "a claim of the year is not settled")]
def xnames : List String := ["java/lang/RuntimeException", "java/lang/Exception"]
def xexs : List (Nat × String) := [(61, "java/lang/IllegalStateException"), (334, "java/lang/IndexOutOfBoundsException"), (177, "java/lang/IllegalArgumentException")]
def xbad : List Cond := xexs.flatMap (fun p => (vx_atS RX7 p.1 p.2 xnames).filter (fun w => !goodWord w))
def xisCD : Cond → Bool
  | .castable .. => true
  | .declares .. => true
  | _ => false
theorem xbad_cd : ∀ w ∈ xbad, xisCD w = true := by decide +kernel
theorem xCD_warm {w : Cond} {s U : State} (h : xisCD w = true) (hW : s.WarmedH U.vm) (hb : w.before #[] s = true) : w.before #[] U = true := by
  cases w <;> first | exact va_Nw.warmC hW hb | exact va_Nw.warmD hW hb | cases h
theorem xCD_tabs {w : Cond} {s U : State} {a a' : Array Value} (h : xisCD w = true) (hv : s.vm = U.vm) (hb : w.before a s = true) : w.before a' U = true := by
  cases w <;> first | exact va_tabs rfl hv hb | cases h
def XT (lo : Nat) (U : State) (H : Heap) : Prop := vx_Zq Bundle.tN "UNASSIGNED_STACK" Bundle.steD (fun q => lo ≤ q) U H ∧ vx_Zq Bundle.tN "SUPPRESSED_SENTINEL" Bundle.listD (fun q => lo ≤ q) U H ∧ (∀ p ∈ xlits, ∃ sa, vk_R RX7 p.1 p.2 sa U) ∧ ∀ w ∈ xbad, w.before #[] U = true
/-- the world h lies in the heap H, from lo on -/
def XI (lo : Nat) (D : va_G) (E : Nat → ClassId) (h : XW) (U : State) (H : Heap) : Prop :=
  lo ≤ H.size ∧ (∀ a e, h a = some e → lo ≤ a) ∧ (∀ a e, h a = some e → va_at D vwCl (a, e) H) ∧ va_K D vwCl (xtys E) U ∧ XT lo U H
theorem XI.lt {lo : Nat} {D : va_G} {E : Nat → ClassId} {h : XW} {U : State} {H : Heap} (I : XI lo D E h U H) : ∀ a e, h a = some e → a < H.size := fun a e he => (I.2.2.1 a e he).lt
theorem XT.warm {lo : Nat} {s U : State} {H : Heap} (hW : s.WarmedH U.vm) (h : XT lo s H) : XT lo U H := ⟨vx_Zq.moved hW.alike h.1, vx_Zq.moved hW.alike h.2.1, fun p hp => by obtain ⟨sa, h9⟩ := h.2.2.1 p hp; exact ⟨sa, vk_R.warm hW h9⟩, fun w hw => xCD_warm (xbad_cd w hw) hW (h.2.2.2 w hw)⟩
theorem XI.warm {lo : Nat} {D : va_G} {E : Nat → ClassId} {h : XW} {s U : State} {H : Heap} (hW : s.WarmedH U.vm) (I : XI lo D E h s H) : XI lo D E h U H := ⟨I.1, I.2.1, I.2.2.1, va_K.moved hW.alike I.2.2.2.1, XT.warm hW I.2.2.2.2⟩
theorem XI.same {lo : Nat} {D : va_G} {E : Nat → ClassId} {h : XW} {s U : State} {H : Heap} (hv : U.vm = s.vm) (I : XI lo D E h s H) : XI lo D E h U H := by
  have hA : s.vm.Alike U.vm := by rw [hv]; exact Vm.Alike.refl s.vm
  exact ⟨I.1, I.2.1, I.2.2.1, va_K.moved hA I.2.2.2.1, vx_Zq.moved hA I.2.2.2.2.1, vx_Zq.moved hA I.2.2.2.2.2.1, fun p hp => by obtain ⟨sa, h9⟩ := I.2.2.2.2.2.2.1 p hp; exact ⟨sa, vk_R.same hv h9⟩, fun w hw => xCD_tabs (xbad_cd w hw) hv.symm (I.2.2.2.2.2.2.2 w hw)⟩
/-- where the heap has moved from lo on alone -/
theorem XI.step {lo : Nat} {D : va_G} {E : Nat → ClassId} {h h1 : XW} {s : State} {H H1 : Heap} {H0 : Heap} {locs : List Loc} (I : XI lo D E h s H) (hd : ∀ a e, h1 a = some e → lo ≤ a) (hP : ∀ a e, h1 a = some e → va_at D vwCl (a, e) H1) (hz : H.size ≤ H1.size) (hk : ∀ q, q < H.size → ¬ lo ≤ q → H1[q]? = H[q]?) : XI lo D E h1 s H1 :=
  ⟨Nat.le_trans I.1 hz, hd, hP, I.2.2.2.1, vx_Zq.kept I.2.2.2.2.1 hk, vx_Zq.kept I.2.2.2.2.2.1 hk, I.2.2.2.2.2.2⟩
def xP (lo : Nat) (D : va_G) (E : Nat → ClassId) (h : XW) (as : List Value) : Array Value → State → Prop := va_Pc as (fun U => XI lo D E h U U.heap)
theorem xP_blind {lo : Nat} {D : va_G} {E : Nat → ClassId} {h : XW} {as : List Value} : FrameBlind (xP lo D E h as) := fun a U g mk ⟨h1, h2⟩ => ⟨h1, XI.same (s := U) rfl h2⟩
/-- it answers v and changes nothing -/
def xR (v : Option Value) : Array Value → State → Outcome → State → Prop := fun _ st oc t => oc = .returned v ∧ t.heap = st.heap
abbrev xA (lo : Nat) : Addr → Prop := fun q => lo ≤ q
section XROWS
variable {p : Program} {l : Launch} {e : Env} {R : Room} {s : State} {m : MethodId} {args : Array Value} {below : List Frame} {meth : Method} {c : Code} {H : Heap} {locs : List Loc} {cells slots : Nat} {Q : State → Prop}
variable {cc : ByteArray} {pc : Nat} {ls : Array Slot} {rest : List Value} {D : va_G} {E : Nat → ClassId} {h : XW} {lo a : Nat} {H0 : Heap} {Ts : List Cond}
theorem xtop {x y : Value} (hxy : x = y) (kk : W p l e R s m args below meth c H locs cells slots Q (F0 m pc ls (y :: rest))) : W p l e R s m args below meth c H locs cells slots Q (F0 m pc ls (x :: rest)) := by rw [hxy]; exact kk
theorem xj {P : Int32 → Prop} {G : Prop} (x : Int32) (k : ∀ v : Int32, v = x → P v) (j : (∀ v : Int32, v = x → P v) → G) : G := j k
theorem xjL {P : Int64 → Prop} {G : Prop} (x : Int64) (k : ∀ v : Int64, v = x → P v) (j : (∀ v : Int64, v = x → P v) → G) : G := j k
theorem xget {own C : String} {T : u_T} {N ci index : Nat} {fs : List Value} {v : Value} (k : Nat) (hx : p.tables.exec = Jvm.exec) (hb : c.code = cc) (hts : ∀ w ∈ Ts, w.before args s = true) (hin : ∀ w ∈ u_ws C T N, w ∈ Ts) (hown : s.vm.findClass own = some m.cls) (I : XI lo D E h s H) (ha : h a = some (.inr (ci, fs))) (hc : vwCl[ci]? = some (C, T, N)) (hk : k < N) (hlink : Cond.fieldLink own index C (T k).2.1 (T k).2.2.1 ∈ Ts) (hfst : (T k).1 = C) (hv : fs[k]? = some v) (hdg : decode cc pc = .ok (.getfield index, 3))
    (kk : W p l e R s m args below meth c H locs cells slots Q (F0 m (pc + 3) ls (v :: rest))) : W p l e R s m args below meth c H locs cells slots Q (F0 m pc ls (.ref a :: rest)) :=
  va_get (ws := [(a, .inr (ci, fs))]) hx hb hts hin hown I.2.2.2.1 (fun j q hj => by
    cases j with
    | zero => cases hj; exact I.2.2.1 a _ ha
    | succ j => simp at hj) 0 rfl hc k hk (hts _ hlink) (fun x hx => by rw [hfst] at hx; exact hx) hv hdg kk
theorem xput {own C : String} {T : u_T} {N ci index : Nat} {fs : List Value} {v : Value} {ty : FieldType} (k : Nat) (hx : p.tables.exec = Jvm.exec) (hb : c.code = cc) (hts : ∀ w ∈ Ts, w.before args s = true) (hin : ∀ w ∈ u_ws C T N, w ∈ Ts) (ty0 : Nat → FieldType) (hty : ∀ k, k < N → parseFieldDescriptor (T k).2.2.1 = some (ty0 k)) (hnm : ∀ a, a < N → ∀ b, b < N → a ≠ b → (T a).2.1 ≠ (T b).2.1) (hown : s.vm.findClass own = some m.cls) (I : XI lo D E h s H) (hS : va_S (xA lo) H0 H locs) (ha : h a = some (.inr (ci, fs))) (hc : vwCl[ci]? = some (C, T, N)) (hk : k < N) (hlink : Cond.fieldLink own index C (T k).2.1 (T k).2.2.1 ∈ Ts) (hfst : (T k).1 = C) (hfin : (T k).2.2.2 = false) (hd : parseFieldDescriptor (T k).2.2.1 = some ty) (hn : narrow ty v = v) (hfit : fits ty v = true) (hl : k < fs.length) (hdg : decode cc pc = .ok (.putfield index, 3))
    (kk : ∀ (H1 : Heap) (locs1 : List Loc), XI lo D E (hset h a (.inr (ci, fs.set k v))) s H1 → va_S (xA lo) H0 H1 locs1 → W p l e R s m args below meth c H1 locs1 cells slots Q (F0 m (pc + 3) ls rest)) : W p l e R s m args below meth c H locs cells slots Q (F0 m pc ls (v :: .ref a :: rest)) := by
  obtain ⟨q0, hq⟩ := xw_get (I.lt a _ ha) ha
  have hA : ∀ b x, hset h a (.inr (ci, fs.set k v)) b = some x → lo ≤ b := by
    intro b x hb
    by_cases hba : b = a
    · subst hba; exact I.2.1 b _ ha
    · rw [hset_n hba] at hb; exact I.2.1 b _ hb
  refine va_put (A := fun q => lo ≤ q ∧ True) (H0 := H) (ws := xw h H.size) (locs := locs) hx hb hts hin ty0 hty hnm hown I.2.2.2.1 (xw_P I.2.2.1 _) (xw_D (fun a e he => ⟨I.2.1 a e he, trivial⟩)) ⟨Nat.le_refl _, fun _ _ _ => rfl, fun q hq => ⟨hS.2.2 q hq, trivial⟩⟩ q0 hq hc k hk (hts _ hlink) (fun x hx => by rw [hfst] at hx; exact hx) hfin hd hn hfit hl hdg (fun H1 locs1 hP1 _ hS1 => ?_)
  refine kk H1 locs1 (XI.step (H0 := H) (locs := locs) I hA (xw_set (fun b x hb => I.lt b x hb) hq hP1) hS1.1 (fun q h1 h2 => hS1.2.1 q h1 (fun z => h2 z.1))) ⟨Nat.le_trans hS.1 hS1.1, fun q h1 h2 => ?_, fun q hq => (hS1.2.2 q hq).1⟩
  rw [hS1.2.1 q (Nat.lt_of_lt_of_le h1 hS.1) (fun z => h2 z.1)]
  exact hS.2.1 q h1 h2
end XROWS
