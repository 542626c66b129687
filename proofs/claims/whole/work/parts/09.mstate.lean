/-! the reference's state: ints and booleans, longs, numbers, by the place of the field and the index -/
abbrev MT : Type := (Nat → Nat → Int32) × (Nat → Nat → Int64) × (Nat → Nat → Nat)
def mI (σ : MT) (k j : Nat) : Int32 := σ.1 k j
def mL (σ : MT) (k j : Nat) : Int64 := σ.2.1 k j
def mN (σ : MT) (k : Nat) : Nat := σ.2.2 k 0
def mK (σ : MT) (k j : Nat) : Nat := σ.2.2 k j
def mIs : List (Nat × Nat) := [(3, 240), (5, 12), (6, 240), (10, 24), (13, 60), (14, 60), (15, 80), (16, 80), (17, 20), (18, 20), (19, 20), (24, 60), (29, 60), (32, 20), (33, 20)]
def mKs : List (Nat × Nat) := [(9, 24), (12, 60), (21, 60), (22, 60), (23, 60), (25, 60), (31, 60)]
def mLs : List (Nat × Nat) := [(4, 12), (7, 240)]
def mZs : List (Nat × Nat) := [(26, 60), (27, 60), (28, 60), (36, 1440)]
def mF (σ : MT) (ar : Nat → Nat) : List Value := [.int (mI σ 0 0), .int (nI (mN σ 1)), .int (nI (mN σ 2)), .ref (ar 3), .ref (ar 4), .ref (ar 5), .ref (ar 6), .ref (ar 7), .int (nI (mN σ 8)), .ref (ar 9), .ref (ar 10), .int (nI (mN σ 11)), .ref (ar 12), .ref (ar 13), .ref (ar 14), .ref (ar 15), .ref (ar 16), .ref (ar 17), .ref (ar 18), .ref (ar 19), .int (nI (mN σ 20)), .ref (ar 21), .ref (ar 22), .ref (ar 23), .ref (ar 24), .ref (ar 25), .ref (ar 26), .ref (ar 27), .ref (ar 28), .ref (ar 29), .int (nI (mN σ 30)), .ref (ar 31), .ref (ar 32), .ref (ar 33), .int (nI (mN σ 34)), .long (mL σ 35 0), .ref (ar 36)]
def RM (E : Nat → ClassId) (σ : MT) (r : Nat) (ar : Nat → Nat) (h : XW) : Prop :=
  h r = some (.inr (8, mF σ ar)) ∧
  (∀ k n, (k, n) ∈ mIs → h (ar k) = some (.inl (E 0, n, .inl (mI σ k)))) ∧
  (∀ k n, (k, n) ∈ mKs → h (ar k) = some (.inl (E 0, n, .inl (fun j => nI (mK σ k j))))) ∧
  (∀ k n, (k, n) ∈ mLs → h (ar k) = some (.inl (E 1, n, .inr (.inl (mL σ k))))) ∧
  (∀ k n, (k, n) ∈ mZs → h (ar k) = some (.inl (E 2, n, .inl (mI σ k)))) ∧
  (∀ k k', k < 37 → k' < 37 → ar k = ar k' → k = k')
/-- what holds of the numbers -/
def MW (σ : MT) : Prop :=
  (mN σ 1 < 2000 ∧ mN σ 2 ≤ 12 ∧ mN σ 8 ≤ 24 ∧ mN σ 11 ≤ 60 ∧ mN σ 20 ≤ 60 ∧ mN σ 30 ≤ mN σ 20 ∧ mN σ 34 ≤ 20) ∧
  (∀ k, k < mN σ 8 → mK σ 9 k < mN σ 2) ∧ (∀ k, k < mN σ 11 → mK σ 12 k < mN σ 8) ∧ (∀ k, k < mN σ 20 → mK σ 21 k < mN σ 8) ∧
  (∀ k, k < mN σ 20 → mK σ 22 k < 4) ∧ (∀ k, k < mN σ 20 → mK σ 23 k < 2000) ∧ (∀ k, k < mN σ 20 → mK σ 25 k < mN σ 30) ∧ (∀ k, k < mN σ 30 → mK σ 31 k < 2000) ∧
  (∀ k, mI σ 26 k = 0 ∨ mI σ 26 k = 1) ∧ (∀ k, mI σ 27 k = 0 ∨ mI σ 27 k = 1) ∧ (∀ k, mI σ 28 k = 0 ∨ mI σ 28 k = 1) ∧ (∀ k, mI σ 36 k = 0 ∨ mI σ 36 k = 1)
/-- loops as functions -/
def lseq {α β : Type} (x : α) (f : α → β) : β := f x
def lbind {α β : Type} (x : α ⊕ β) (f : α → β) : β := match x with
  | .inl a => f a
  | .inr b => b
theorem xnb {v : Int32} (h : v = 0 ∨ v = 1) : narrow .boolean (.int v) = .int v := by
  rcases h with rfl | rfl <;> rfl
section XL
variable {p : Program} {l : Launch} {e : Env} {R : Room} {s : State} {m : MethodId} {args : Array Value} {below : List Frame} {meth : Method} {c : Code} {H : Heap} {locs : List Loc} {cells slots : Nat} {Q : State → Prop} {cc : ByteArray} {pc : Nat} {ls : Array Slot} {rest : List Value} {x y : Int64} {off : Int} {tgt : Nat}
theorem xl_eq (hx : p.tables.exec = Jvm.exec) (hb : c.code = cc) (hd : decode cc pc = .ok (.lcmp, 1)) (hd2 : decode cc (pc + 1) = .ok (.ifCond .eq off, 3)) (ht : ((pc + 1 : Nat) : Int) + off = (tgt : Int)) (kt : x = y → W p l e R s m args below meth c H locs cells slots Q (F0 m tgt ls rest)) (kf : ¬ x = y → W p l e R s m args below meth c H locs cells slots Q (F0 m (pc + 4) ls rest)) : W p l e R s m args below meth c H locs cells slots Q (F0 m pc ls (.long y :: .long x :: rest)) :=
  W.lcmp hx hb hd (lv_if_eq hx hb hd2 ht (fun q => kt ((lg_cmp_eq x y).mp q)) (fun q => kf ((not_congr (lg_cmp_eq x y)).mp q)))
theorem xl_ne (hx : p.tables.exec = Jvm.exec) (hb : c.code = cc) (hd : decode cc pc = .ok (.lcmp, 1)) (hd2 : decode cc (pc + 1) = .ok (.ifCond .ne off, 3)) (ht : ((pc + 1 : Nat) : Int) + off = (tgt : Int)) (kt : ¬ x = y → W p l e R s m args below meth c H locs cells slots Q (F0 m tgt ls rest)) (kf : x = y → W p l e R s m args below meth c H locs cells slots Q (F0 m (pc + 4) ls rest)) : W p l e R s m args below meth c H locs cells slots Q (F0 m pc ls (.long y :: .long x :: rest)) :=
  W.lcmp hx hb hd (lv_if_ne hx hb hd2 ht (fun q => kt ((not_congr (lg_cmp_eq x y)).mp q)) (fun q => kf ((lg_cmp_eq x y).mp q)))
theorem xl_lt (hx : p.tables.exec = Jvm.exec) (hb : c.code = cc) (hd : decode cc pc = .ok (.lcmp, 1)) (hd2 : decode cc (pc + 1) = .ok (.ifCond .lt off, 3)) (ht : ((pc + 1 : Nat) : Int) + off = (tgt : Int)) (kt : x < y → W p l e R s m args below meth c H locs cells slots Q (F0 m tgt ls rest)) (kf : ¬ x < y → W p l e R s m args below meth c H locs cells slots Q (F0 m (pc + 4) ls rest)) : W p l e R s m args below meth c H locs cells slots Q (F0 m pc ls (.long y :: .long x :: rest)) :=
  W.lcmp hx hb hd (lv_if_lt hx hb hd2 ht (fun q => kt ((lg_cmp_lt x y).mp q)) (fun q => kf ((not_congr (lg_cmp_lt x y)).mp q)))
theorem xl_ge (hx : p.tables.exec = Jvm.exec) (hb : c.code = cc) (hd : decode cc pc = .ok (.lcmp, 1)) (hd2 : decode cc (pc + 1) = .ok (.ifCond .ge off, 3)) (ht : ((pc + 1 : Nat) : Int) + off = (tgt : Int)) (kt : y ≤ x → W p l e R s m args below meth c H locs cells slots Q (F0 m tgt ls rest)) (kf : ¬ y ≤ x → W p l e R s m args below meth c H locs cells slots Q (F0 m (pc + 4) ls rest)) : W p l e R s m args below meth c H locs cells slots Q (F0 m pc ls (.long y :: .long x :: rest)) :=
  W.lcmp hx hb hd (lv_if_ge hx hb hd2 ht (fun q => kt ((lg_cmp_ge x y).mp q)) (fun q => kf ((not_congr (lg_cmp_ge x y)).mp q)))
theorem xl_gt (hx : p.tables.exec = Jvm.exec) (hb : c.code = cc) (hd : decode cc pc = .ok (.lcmp, 1)) (hd2 : decode cc (pc + 1) = .ok (.ifCond .gt off, 3)) (ht : ((pc + 1 : Nat) : Int) + off = (tgt : Int)) (kt : y < x → W p l e R s m args below meth c H locs cells slots Q (F0 m tgt ls rest)) (kf : ¬ y < x → W p l e R s m args below meth c H locs cells slots Q (F0 m (pc + 4) ls rest)) : W p l e R s m args below meth c H locs cells slots Q (F0 m pc ls (.long y :: .long x :: rest)) :=
  W.lcmp hx hb hd (lv_if_gt hx hb hd2 ht (fun q => kt ((lg_cmp_gt x y).mp q)) (fun q => kf ((not_congr (lg_cmp_gt x y)).mp q)))
theorem xl_le (hx : p.tables.exec = Jvm.exec) (hb : c.code = cc) (hd : decode cc pc = .ok (.lcmp, 1)) (hd2 : decode cc (pc + 1) = .ok (.ifCond .le off, 3)) (ht : ((pc + 1 : Nat) : Int) + off = (tgt : Int)) (kt : x ≤ y → W p l e R s m args below meth c H locs cells slots Q (F0 m tgt ls rest)) (kf : ¬ x ≤ y → W p l e R s m args below meth c H locs cells slots Q (F0 m (pc + 4) ls rest)) : W p l e R s m args below meth c H locs cells slots Q (F0 m pc ls (.long y :: .long x :: rest)) :=
  W.lcmp hx hb hd (lv_if_le hx hb hd2 ht (fun q => kt ((lg_cmp_le x y).mp q)) (fun q => kf ((not_congr (lg_cmp_le x y)).mp q)))

end XL
