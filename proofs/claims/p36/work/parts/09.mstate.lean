/-! the reference's state: ints and booleans, longs, numbers, by the place of the field and the index -/
/-- loops as functions -/
def lseq {α β : Type} (x : α) (f : α → β) : β := f x
def lbind {α β : Type} (x : α ⊕ β) (f : α → β) : β := match x with
  | .inl a => f a
  | .inr b => b
theorem xnb {v : Int32} (h : v = 0 ∨ v = 1) : narrow .boolean (.int v) = .int v := by
  rcases h with rfl | rfl <;> rfl
section XL
variable {p : Program} {l : Launch} {e : Env} {R : Room} {s : State} {m : MethodId} {args : Array Value} {below : List Frame} {meth : Method} {c : Code} {H : Heap} {locs : List Loc} {cells slots : Nat} {Q : State → Prop} {cc : ByteArray} {pc : Nat} {ls : Array Slot} {rest : List Value} {x y : Int64} {off : Int} {tgt : Nat}
theorem xl_eq (hx : p.tables.exec = Jvm.exec) (hb : c.code = cc) (hd : decode cc pc = .ok (.lcmp, 1)) (hd2 : decode cc (pc + 1) = .ok (.ifCond .eq off, 3)) (ht : ((pc + 1 : Nat) : Int) + off = (tgt : Int)) (kt : x = y → W p l e R s m args below meth c H locs cells slots Q (F0 m tgt ls rest)) (kf : ¬ x = y → W p l e R s m args below meth c H locs cells slots Q (F0 m (pc + 4) ls rest)) : W p l e R s m args below meth c H locs cells slots Q (F0 m pc ls (.long y :: .long x :: rest)) :=
  W.lcmp hx hb hd (lv_if_eq hx hb hd2 ht (fun q => kt ((lg_cmp_eq x y).mp q)) (fun q => kf ((not_congr (lg_cmp_eq x y)).mp q)))
theorem xl_ne (hx : p.tables.exec = Jvm.exec) (hb : c.code = cc) (hd : decode cc pc = .ok (.lcmp, 1)) (hd2 : decode cc (pc + 1) = .ok (.ifCond .ne off, 3)) (ht : ((pc + 1 : Nat) : Int) + off = (tgt : Int)) (kt : ¬ x = y → W p l e R s m args below meth c H locs cells slots Q (F0 m tgt ls rest)) (kf : x = y → W p l e R s m args below meth c H locs cells slots Q (F0 m (pc + 4) ls rest)) : W p l e R s m args below meth c H locs cells slots Q (F0 m pc ls (.long y :: .long x :: rest)) :=
  W.lcmp hx hb hd (lv_if_ne hx hb hd2 ht (fun q => kt ((not_congr (lg_cmp_eq x y)).mp q)) (fun q => kf ((lg_cmp_eq x y).mp q)))
theorem xl_lt (hx : p.tables.exec = Jvm.exec) (hb : c.code = cc) (hd : decode cc pc = .ok (.lcmp, 1)) (hd2 : decode cc (pc + 1) = .ok (.ifCond .lt off, 3)) (ht : ((pc + 1 : Nat) : Int) + off = (tgt : Int)) (kt : x < y → W p l e R s m args below meth c H locs cells slots Q (F0 m tgt ls rest)) (kf : ¬ x < y → W p l e R s m args below meth c H locs cells slots Q (F0 m (pc + 4) ls rest)) : W p l e R s m args below meth c H locs cells slots Q (F0 m pc ls (.long y :: .long x :: rest)) :=
  W.lcmp hx hb hd (lv_if_lt hx hb hd2 ht (fun q => kt ((lg_cmp_lt x y).mp q)) (fun q => kf ((not_congr (lg_cmp_lt x y)).mp q)))
theorem xl_ge (hx : p.tables.exec = Jvm.exec) (hb : c.code = cc) (hd : decode cc pc = .ok (.lcmp, 1)) (hd2 : decode cc (pc + 1) = .ok (.ifCond .ge off, 3)) (ht : ((pc + 1 : Nat) : Int) + off = (tgt : Int)) (kt : y ≤ x → W p l e R s m args below meth c H locs cells slots Q (F0 m tgt ls rest)) (kf : ¬ y ≤ x → W p l e R s m args below meth c H locs cells slots Q (F0 m (pc + 4) ls rest)) : W p l e R s m args below meth c H locs cells slots Q (F0 m pc ls (.long y :: .long x :: rest)) :=
  W.lcmp hx hb hd (lv_if_ge hx hb hd2 ht (fun q => kt ((lg_cmp_ge x y).mp q)) (fun q => kf ((not_congr (lg_cmp_ge x y)).mp q)))
theorem xl_gt (hx : p.tables.exec = Jvm.exec) (hb : c.code = cc) (hd : decode cc pc = .ok (.lcmp, 1)) (hd2 : decode cc (pc + 1) = .ok (.ifCond .gt off, 3)) (ht : ((pc + 1 : Nat) : Int) + off = (tgt : Int)) (kt : y < x → W p l e R s m args below meth c H locs cells slots Q (F0 m tgt ls rest)) (kf : ¬ y < x → W p l e R s m args below meth c H locs cells slots Q (F0 m (pc + 4) ls rest)) : W p l e R s m args below meth c H locs cells slots Q (F0 m pc ls (.long y :: .long x :: rest)) :=
  W.lcmp hx hb hd (lv_if_gt hx hb hd2 ht (fun q => kt ((lg_cmp_gt x y).mp q)) (fun q => kf ((not_congr (lg_cmp_gt x y)).mp q)))
theorem xl_le (hx : p.tables.exec = Jvm.exec) (hb : c.code = cc) (hd : decode cc pc = .ok (.lcmp, 1)) (hd2 : decode cc (pc + 1) = .ok (.ifCond .le off, 3)) (ht : ((pc + 1 : Nat) : Int) + off = (tgt : Int)) (kt : x ≤ y → W p l e R s m args below meth c H locs cells slots Q (F0 m tgt ls rest)) (kf : ¬ x ≤ y → W p l e R s m args below meth c H locs cells slots Q (F0 m (pc + 4) ls rest)) : W p l e R s m args below meth c H locs cells slots Q (F0 m pc ls (.long y :: .long x :: rest)) :=
  W.lcmp hx hb hd (lv_if_le hx hb hd2 ht (fun q => kt ((lg_cmp_le x y).mp q)) (fun q => kf ((not_congr (lg_cmp_le x y)).mp q)))

end XL
/-! the reference's writes -/
section RMP
variable {E : Nat → ClassId} {th : Int32} {r : Nat} {ar : Nat → Nat} {h : XW}
end RMP
def XO (lo : Nat) (D : va_G) (h : XW) (H : Heap) : Prop := (∀ a e, h a = some e → lo ≤ a) ∧ (∀ a e, h a = some e → va_at D vwCl (a, e) H)
/-- it answers some v, and leaves some world -/
def xQ (lo : Nat) (D : va_G) (post : Option Value → XW → Prop) : Array Value → State → Outcome → State → Prop := fun _ st oc t => (∃ (v : Option Value) (h : XW), oc = .returned v ∧ post v h ∧ XO lo D h t.heap) ∧ va_F (xA lo) st t
section XQR
variable {p : Program} {l : Launch} {e : Env} {R : Room} {s : State} {m : MethodId} {args : Array Value} {below : List Frame} {meth : Method} {c : Code} {H : Heap} {locs : List Loc} {cells slots : Nat} {Q : State → Prop}
variable {cc : ByteArray} {pc : Nat} {ls : Array Slot} {rest st0 : List Value} {D : va_G} {E : Nat → ClassId} {h h0 : XW} {lo n i r : Nat} {ar : Nat → Nat} {th : Int32} {H0 : Heap} {Ts : List Cond} {post : Option Value → XW → Prop}
theorem XI.O (I : XI lo D E h s H) : XO lo D h H := ⟨I.2.1, I.2.2.1⟩
theorem xriQ {v : Int32} (hx : p.tables.exec = Jvm.exec) (hb : c.code = cc) (hr : meth.sig.returnType = some .int) (hlocks : meth.locks = false) (hdg : decode cc pc = .ok (.ireturn, 1)) (I : XI lo D E h s H) (hS : va_S (xA lo) s.heap H locs) (hp : post (some (.int v)) h) : W p l e R s m args below meth c H locs cells slots (MQ below (xQ lo D post) args s cells slots (xA lo)) (F0 m pc ls [.int v]) :=
  W.iret hx hb hr (fun t ht _ => ⟨⟨_, h, rfl, hp, by rw [ht]; exact I.O⟩, hS.F ht⟩) hS.2.2 hdg hlocks
theorem xrzQ {v : Int32} (hx : p.tables.exec = Jvm.exec) (hb : c.code = cc) (hr : meth.sig.returnType = some .boolean) (hlocks : meth.locks = false) (hdg : decode cc pc = .ok (.ireturn, 1)) (h01 : v = 0 ∨ v = 1) (I : XI lo D E h s H) (hS : va_S (xA lo) s.heap H locs) (hp : post (some (.int v)) h) : W p l e R s m args below meth c H locs cells slots (MQ below (xQ lo D post) args s cells slots (xA lo)) (F0 m pc ls [.int v]) :=
  W.zret hx hb hr (xnb h01) (fun t ht _ => ⟨⟨_, h, rfl, hp, by rw [ht]; exact I.O⟩, hS.F ht⟩) hS.2.2 hdg hlocks
theorem xrlQ {v : Int64} (hx : p.tables.exec = Jvm.exec) (hb : c.code = cc) (hr : meth.sig.returnType = some .long) (hlocks : meth.locks = false) (hdg : decode cc pc = .ok (.lreturn, 1)) (I : XI lo D E h s H) (hS : va_S (xA lo) s.heap H locs) (hp : post (some (.long v)) h) : W p l e R s m args below meth c H locs cells slots (MQ below (xQ lo D post) args s cells slots (xA lo)) (F0 m pc ls [.long v]) :=
  W.lret hx hb hr (fun t ht _ => ⟨⟨_, h, rfl, hp, by rw [ht]; exact I.O⟩, hS.F ht⟩) hS.2.2 hdg hlocks
theorem xrvQ (hx : p.tables.exec = Jvm.exec) (hb : c.code = cc) (hr : meth.sig.returnType = none) (hlocks : meth.locks = false) (hdg : decode cc pc = .ok (.return_, 1)) (I : XI lo D E h s H) (hS : va_S (xA lo) s.heap H locs) (hp : post none h) : W p l e R s m args below meth c H locs cells slots (MQ below (xQ lo D post) args s cells slots (xA lo)) (F0 m pc ls []) :=
  W.vret hx hb hr (fun t ht _ => ⟨⟨_, h, rfl, hp, by rw [ht]; exact I.O⟩, hS.F ht⟩) hS.2.2 hdg hlocks
/-- a call that may write -/
theorem xcQ {aa : Array Value} {mc ms : Nat} {h1 : XW} (hr : va_Run p l e R s m args below meth c H locs cells slots mc ms (F0 m pc ls st0) rest (xQ lo D post aa) (xA lo)) (I : XI lo D E h1 s H) (hS : va_S (xA lo) H0 H locs)
    (kk : ∀ (v : Option Value) (h2 : XW) (H1 : Heap) (locs1 : List Loc), post v h2 → XI lo D E h2 s H1 → va_S (xA lo) H0 H1 locs1 → W p l e R s m args below meth c H1 locs1 (cells + mc) (slots + ms) Q (F0 m (pc + 3) ls (v.toList ++ rest))) : W p l e R s m args below meth c H locs cells slots Q (F0 m pc ls st0) := by
  intro T hT X
  obtain ⟨v, st₀, t, T', L, e0, X', hL, e1, e2, ⟨⟨v9, h2, hv, hp, hO⟩, hF⟩, st⟩ := hr T hT X
  cases hv
  obtain ⟨hz, hk⟩ := hF
  rw [e0] at hz hk
  obtain ⟨t2, a1, b1⟩ := kk v h2 T'.heap (locs ++ L) hp (XI.step (H0 := H) (locs := []) I hO.1 (by rw [e1]; exact hO.2) (by rw [e1]; exact hz) (fun q h1 h2 => by rw [e1]; exact hk q h1 h2))
    ⟨Nat.le_trans hS.1 (by rw [e1]; exact hz), fun q g1 g2 => by rw [e1, hk q (Nat.lt_of_lt_of_le g1 hS.1) g2]; exact hS.2.1 q g1 g2, fun q hq => by
      rcases List.mem_append.mp hq with g | g
      · exact hS.2.2 q g
      · exact hL q g⟩ T' rfl X'
  exact ⟨t2, st t2 a1, b1⟩
theorem xcvQ {y : MethodName} {bytes : ByteArray} {maxL nL na index ci N mc ms : Nat} {ret : Option FieldType} {ws : List Cond} {rm : Room} {own C : String} {T : u_T} {b : Addr} {As fs : List Value} (S : CallFix p m c cc nL s args Ts own) (hM : Met l y ws rm (xP lo D E h (.ref b :: As)) (xQ lo D post) mc ms (xA lo)) (cw : CallW R s args own C index y bytes maxL ret ws rm mc ms na) (I : XI lo D E h s H) (hS : va_S (xA lo) H0 H locs) (hbc : h b = some (.inr (ci, fs))) (hc : vwCl[ci]? = some (C, T, N)) (hn : As.length = na) (hsize : ls.size = nL) (hst : st0 = As.reverse ++ .ref b :: rest) (hW : (rest.map fun v => v.category).sum ≤ 8) (hdg : decode cc pc = .ok (.invokevirtual index, 3)) (hf : cells + mc ≤ R.cells ∧ slots + ms ≤ R.slots)
    (kk : ∀ (v : Option Value) (h2 : XW) (H1 : Heap) (locs1 : List Loc), post v h2 → XI lo D E h2 s H1 → va_S (xA lo) H0 H1 locs1 → W p l e R s m args below meth c H1 locs1 (cells + mc) (slots + ms) Q (F0 m (pc + 3) ls (v.toList ++ rest))) : W p l e R s m args below meth c H locs cells slots Q (F0 m pc ls st0) :=
  xcQ (va_runV (As := As) (rest := rest) S hM cw ⟨xP_blind, va_recv I.2.2.2.1 (xone I.2.2.1 hbc) hc (q0 := 0) rfl, fun U hU hW => ⟨rfl, by show XI lo D E h U U.heap; rw [hU]; exact XI.warm hW I⟩⟩ rfl hn hsize hst (lv_room hW) hdg hf) I hS kk
end XQR
theorem vnar01 {x : Int32} : vp_nar .boolean x = 0 ∨ vp_nar .boolean x = 1 := by
  have h : vp_nar .boolean x = x &&& 1 := rfl
  rw [h]
  have hx : ∀ y : BitVec 32, y &&& 1#32 = 0#32 ∨ y &&& 1#32 = 1#32 := by
    intro y
    have h1 : (y &&& 1#32).toNat = y.toNat % 2 := by rw [BitVec.toNat_and]; exact Nat.and_one_is_mod _
    rcases Nat.mod_two_eq_zero_or_one y.toNat with h2 | h2
    · exact Or.inl (BitVec.eq_of_toNat_eq (by rw [h1, h2]; rfl))
    · exact Or.inr (BitVec.eq_of_toNat_eq (by rw [h1, h2]; rfl))
  rcases hx x.toBitVec with h2 | h2
  · exact Or.inl (Int32.toBitVec_inj.mp h2)
  · exact Or.inr (Int32.toBitVec_inj.mp h2)
