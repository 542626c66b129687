/-! the reference's state: ints and booleans, longs, numbers, by the place of the field and the index -/
abbrev MT : Type := (Nat → Nat → Int32) × (Nat → Nat → Int64) × (Nat → Nat → Nat)
def mI (σ : MT) (k j : Nat) : Int32 := σ.1 k j
def mL (σ : MT) (k j : Nat) : Int64 := σ.2.1 k j
def mN (σ : MT) (k : Nat) : Nat := σ.2.2 k 0
def mK (σ : MT) (k j : Nat) : Nat := σ.2.2 k j
def mIs : List (Nat × Nat) := [(3, 240), (5, 12), (6, 240), (10, 24), (13, 60), (14, 60), (15, 80), (16, 80), (17, 20), (18, 20), (19, 20), (24, 60), (29, 60), (32, 20), (33, 20)]
def mKs : List (Nat × Nat) := [(9, 24), (12, 60), (21, 60), (22, 60), (23, 60), (25, 60), (31, 60)]
def mLs : List (Nat × Nat) := [(4, 12), (7, 240)]
def mZs : List (Nat × Nat) := [(26, 60), (27, 60), (28, 60), (36, 1440)]
def mF (σ : MT) (th : Int32) (ar : Nat → Nat) : List Value := [.int th, .int (nI (mN σ 1)), .int (nI (mN σ 2)), .ref (ar 3), .ref (ar 4), .ref (ar 5), .ref (ar 6), .ref (ar 7), .int (nI (mN σ 8)), .ref (ar 9), .ref (ar 10), .int (nI (mN σ 11)), .ref (ar 12), .ref (ar 13), .ref (ar 14), .ref (ar 15), .ref (ar 16), .ref (ar 17), .ref (ar 18), .ref (ar 19), .int (nI (mN σ 20)), .ref (ar 21), .ref (ar 22), .ref (ar 23), .ref (ar 24), .ref (ar 25), .ref (ar 26), .ref (ar 27), .ref (ar 28), .ref (ar 29), .int (nI (mN σ 30)), .ref (ar 31), .ref (ar 32), .ref (ar 33), .int (nI (mN σ 34)), .long (mL σ 35 0), .ref (ar 36)]
def RM (E : Nat → ClassId) (σ : MT) (th : Int32) (r : Nat) (ar : Nat → Nat) (h : XW) : Prop :=
  h r = some (.inr (8, mF σ th ar)) ∧
  (∀ k n, (k, n) ∈ mIs → h (ar k) = some (.inl (E 0, n, .inl (mI σ k)))) ∧
  (∀ k n, (k, n) ∈ mKs → h (ar k) = some (.inl (E 0, n, .inl (fun j => nI (mK σ k j))))) ∧
  (∀ k n, (k, n) ∈ mLs → h (ar k) = some (.inl (E 1, n, .inr (.inl (mL σ k))))) ∧
  (∀ k n, (k, n) ∈ mZs → h (ar k) = some (.inl (E 2, n, .inl (mI σ k)))) ∧
  (∀ k k', k < 37 → k' < 37 → ar k = ar k' → k = k')
/-- what holds of the numbers -/
def MW (σ : MT) : Prop :=
  (mN σ 1 < 2000 ∧ mN σ 2 ≤ 12 ∧ mN σ 8 ≤ 24 ∧ mN σ 11 ≤ 60 ∧ mN σ 20 ≤ 60 ∧ mN σ 30 ≤ mN σ 20 ∧ mN σ 34 ≤ 20) ∧
  (∀ k, k < mN σ 8 → mK σ 9 k < mN σ 2) ∧ (∀ k, k < mN σ 11 → mK σ 12 k < mN σ 8) ∧ (∀ k, k < mN σ 20 → mK σ 21 k < mN σ 8) ∧
  (∀ k, k < mN σ 20 → mK σ 22 k < 4) ∧ (∀ k, k < mN σ 20 → mK σ 23 k < 2000) ∧ (∀ k, k < mN σ 20 → mK σ 25 k < mN σ 30) ∧ (∀ k, k < mN σ 30 → mK σ 31 k < 2000) ∧
  (∀ k, mI σ 26 k = 0 ∨ mI σ 26 k = 1) ∧ (∀ k, mI σ 27 k = 0 ∨ mI σ 27 k = 1) ∧ (∀ k, mI σ 28 k = 0 ∨ mI σ 28 k = 1) ∧ (∀ k, mI σ 36 k = 0 ∨ mI σ 36 k = 1)
/-- loops as functions -/
def lseq {α β : Type} (x : α) (f : α → β) : β := f x
def lbind {α β : Type} (x : α ⊕ β) (f : α → β) : β := match x with
  | .inl a => f a
  | .inr b => b
theorem xnb {v : Int32} (h : v = 0 ∨ v = 1) : narrow .boolean (.int v) = .int v := by
  rcases h with rfl | rfl <;> rfl
section XL
variable {p : Program} {l : Launch} {e : Env} {R : Room} {s : State} {m : MethodId} {args : Array Value} {below : List Frame} {meth : Method} {c : Code} {H : Heap} {locs : List Loc} {cells slots : Nat} {Q : State → Prop} {cc : ByteArray} {pc : Nat} {ls : Array Slot} {rest : List Value} {x y : Int64} {off : Int} {tgt : Nat}
theorem xl_eq (hx : p.tables.exec = Jvm.exec) (hb : c.code = cc) (hd : decode cc pc = .ok (.lcmp, 1)) (hd2 : decode cc (pc + 1) = .ok (.ifCond .eq off, 3)) (ht : ((pc + 1 : Nat) : Int) + off = (tgt : Int)) (kt : x = y → W p l e R s m args below meth c H locs cells slots Q (F0 m tgt ls rest)) (kf : ¬ x = y → W p l e R s m args below meth c H locs cells slots Q (F0 m (pc + 4) ls rest)) : W p l e R s m args below meth c H locs cells slots Q (F0 m pc ls (.long y :: .long x :: rest)) :=
  W.lcmp hx hb hd (lv_if_eq hx hb hd2 ht (fun q => kt ((lg_cmp_eq x y).mp q)) (fun q => kf ((not_congr (lg_cmp_eq x y)).mp q)))
theorem xl_ne (hx : p.tables.exec = Jvm.exec) (hb : c.code = cc) (hd : decode cc pc = .ok (.lcmp, 1)) (hd2 : decode cc (pc + 1) = .ok (.ifCond .ne off, 3)) (ht : ((pc + 1 : Nat) : Int) + off = (tgt : Int)) (kt : ¬ x = y → W p l e R s m args below meth c H locs cells slots Q (F0 m tgt ls rest)) (kf : x = y → W p l e R s m args below meth c H locs cells slots Q (F0 m (pc + 4) ls rest)) : W p l e R s m args below meth c H locs cells slots Q (F0 m pc ls (.long y :: .long x :: rest)) :=
  W.lcmp hx hb hd (lv_if_ne hx hb hd2 ht (fun q => kt ((not_congr (lg_cmp_eq x y)).mp q)) (fun q => kf ((lg_cmp_eq x y).mp q)))
theorem xl_lt (hx : p.tables.exec = Jvm.exec) (hb : c.code = cc) (hd : decode cc pc = .ok (.lcmp, 1)) (hd2 : decode cc (pc + 1) = .ok (.ifCond .lt off, 3)) (ht : ((pc + 1 : Nat) : Int) + off = (tgt : Int)) (kt : x < y → W p l e R s m args below meth c H locs cells slots Q (F0 m tgt ls rest)) (kf : ¬ x < y → W p l e R s m args below meth c H locs cells slots Q (F0 m (pc + 4) ls rest)) : W p l e R s m args below meth c H locs cells slots Q (F0 m pc ls (.long y :: .long x :: rest)) :=
  W.lcmp hx hb hd (lv_if_lt hx hb hd2 ht (fun q => kt ((lg_cmp_lt x y).mp q)) (fun q => kf ((not_congr (lg_cmp_lt x y)).mp q)))
theorem xl_ge (hx : p.tables.exec = Jvm.exec) (hb : c.code = cc) (hd : decode cc pc = .ok (.lcmp, 1)) (hd2 : decode cc (pc + 1) = .ok (.ifCond .ge off, 3)) (ht : ((pc + 1 : Nat) : Int) + off = (tgt : Int)) (kt : y ≤ x → W p l e R s m args below meth c H locs cells slots Q (F0 m tgt ls rest)) (kf : ¬ y ≤ x → W p l e R s m args below meth c H locs cells slots Q (F0 m (pc + 4) ls rest)) : W p l e R s m args below meth c H locs cells slots Q (F0 m pc ls (.long y :: .long x :: rest)) :=
  W.lcmp hx hb hd (lv_if_ge hx hb hd2 ht (fun q => kt ((lg_cmp_ge x y).mp q)) (fun q => kf ((not_congr (lg_cmp_ge x y)).mp q)))
theorem xl_gt (hx : p.tables.exec = Jvm.exec) (hb : c.code = cc) (hd : decode cc pc = .ok (.lcmp, 1)) (hd2 : decode cc (pc + 1) = .ok (.ifCond .gt off, 3)) (ht : ((pc + 1 : Nat) : Int) + off = (tgt : Int)) (kt : y < x → W p l e R s m args below meth c H locs cells slots Q (F0 m tgt ls rest)) (kf : ¬ y < x → W p l e R s m args below meth c H locs cells slots Q (F0 m (pc + 4) ls rest)) : W p l e R s m args below meth c H locs cells slots Q (F0 m pc ls (.long y :: .long x :: rest)) :=
  W.lcmp hx hb hd (lv_if_gt hx hb hd2 ht (fun q => kt ((lg_cmp_gt x y).mp q)) (fun q => kf ((not_congr (lg_cmp_gt x y)).mp q)))
theorem xl_le (hx : p.tables.exec = Jvm.exec) (hb : c.code = cc) (hd : decode cc pc = .ok (.lcmp, 1)) (hd2 : decode cc (pc + 1) = .ok (.ifCond .le off, 3)) (ht : ((pc + 1 : Nat) : Int) + off = (tgt : Int)) (kt : x ≤ y → W p l e R s m args below meth c H locs cells slots Q (F0 m tgt ls rest)) (kf : ¬ x ≤ y → W p l e R s m args below meth c H locs cells slots Q (F0 m (pc + 4) ls rest)) : W p l e R s m args below meth c H locs cells slots Q (F0 m pc ls (.long y :: .long x :: rest)) :=
  W.lcmp hx hb hd (lv_if_le hx hb hd2 ht (fun q => kt ((lg_cmp_le x y).mp q)) (fun q => kf ((not_congr (lg_cmp_le x y)).mp q)))

end XL
/-! the reference's writes -/
def mSI (σ : MT) (k j : Nat) (x : Int32) : MT := (fun a b => if a = k ∧ b = j then x else σ.1 a b, σ.2.1, σ.2.2)
def mSL (σ : MT) (k j : Nat) (x : Int64) : MT := (σ.1, fun a b => if a = k ∧ b = j then x else σ.2.1 a b, σ.2.2)
def mSK (σ : MT) (k j : Nat) (x : Nat) : MT := (σ.1, σ.2.1, fun a b => if a = k ∧ b = j then x else σ.2.2 a b)
/-- outside the reference's cells nothing has changed -/
def xF (r : Nat) (ar : Nat → Nat) (h h1 : XW) : Prop := ∀ q, q ≠ r → (∀ k, k < 37 → q ≠ ar k) → h1 q = h q
theorem xF.rf {r : Nat} {ar : Nat → Nat} {h : XW} : xF r ar h h := fun _ _ _ => rfl
theorem xF.r {r : Nat} {ar : Nat → Nat} {h h1 : XW} {e : va_E} (hF : xF r ar h h1) : xF r ar h (hset h1 r e) := fun q h1 h2 => by rw [hset_n h1]; exact hF q h1 h2
theorem xF.a {r : Nat} {ar : Nat → Nat} {h h1 : XW} {e : va_E} {k : Nat} (hF : xF r ar h h1) (hk : k < 37) : xF r ar h (hset h1 (ar k) e) := fun q h1 h2 => by rw [hset_n (h2 k hk)]; exact hF q h1 h2
theorem mLs_lt : ∀ k n, (k, n) ∈ mIs ++ (mKs ++ (mLs ++ mZs)) → k < 37 := by
  intro k n hk
  have h9 : ∀ q ∈ mIs ++ (mKs ++ (mLs ++ mZs)), q.1 < 37 := by decide +kernel
  exact h9 (k, n) hk
theorem mI_lt {k n : Nat} (h : (k, n) ∈ mIs) : k < 37 := mLs_lt k n (List.mem_append_left _ h)
theorem mK_lt {k n : Nat} (h : (k, n) ∈ mKs) : k < 37 := mLs_lt k n (List.mem_append_right _ (List.mem_append_left _ h))
theorem mL_lt {k n : Nat} (h : (k, n) ∈ mLs) : k < 37 := mLs_lt k n (List.mem_append_right _ (List.mem_append_right _ (List.mem_append_left _ h)))
theorem mZ_lt {k n : Nat} (h : (k, n) ∈ mZs) : k < 37 := mLs_lt k n (List.mem_append_right _ (List.mem_append_right _ (List.mem_append_right _ h)))
theorem RM.rne {E : Nat → ClassId} {σ : MT} {th : Int32} {r : Nat} {ar : Nat → Nat} {h : XW} (hR : RM E σ th r ar h) {k : Nat} {a : ClassId × vp_A} (ha : h (ar k) = some (.inl a)) : ar k ≠ r := by
  intro z
  rw [z, hR.1] at ha
  cases ha
theorem mSI_I (σ : MT) (k j : Nat) (x : Int32) (a b : Nat) : mI (mSI σ k j x) a b = if a = k ∧ b = j then x else mI σ a b := rfl
theorem mSI_L (σ : MT) (k j : Nat) (x : Int32) (a b : Nat) : mL (mSI σ k j x) a b = mL σ a b := rfl
theorem mSI_K (σ : MT) (k j : Nat) (x : Int32) (a b : Nat) : mK (mSI σ k j x) a b = mK σ a b := rfl
theorem mSI_N (σ : MT) (k j : Nat) (x : Int32) (a : Nat) : mN (mSI σ k j x) a = mN σ a := rfl
theorem mSL_I (σ : MT) (k j : Nat) (x : Int64) (a b : Nat) : mI (mSL σ k j x) a b = mI σ a b := rfl
theorem mSL_L (σ : MT) (k j : Nat) (x : Int64) (a b : Nat) : mL (mSL σ k j x) a b = if a = k ∧ b = j then x else mL σ a b := rfl
theorem mSL_K (σ : MT) (k j : Nat) (x : Int64) (a b : Nat) : mK (mSL σ k j x) a b = mK σ a b := rfl
theorem mSL_N (σ : MT) (k j : Nat) (x : Int64) (a : Nat) : mN (mSL σ k j x) a = mN σ a := rfl
theorem mSK_I (σ : MT) (k j : Nat) (x : Nat) (a b : Nat) : mI (mSK σ k j x) a b = mI σ a b := rfl
theorem mSK_L (σ : MT) (k j : Nat) (x : Nat) (a b : Nat) : mL (mSK σ k j x) a b = mL σ a b := rfl
theorem mSK_K (σ : MT) (k j : Nat) (x : Nat) (a b : Nat) : mK (mSK σ k j x) a b = if a = k ∧ b = j then x else mK σ a b := rfl
theorem mSK_N (σ : MT) (k j : Nat) (x : Nat) (a : Nat) : mN (mSK σ k j x) a = if a = k ∧ 0 = j then x else mN σ a := rfl
section RMP
variable {E : Nat → ClassId} {σ : MT} {th : Int32} {r : Nat} {ar : Nat → Nat} {h : XW}
/-- an array of the reference anew: all else of it stays -/
theorem RM.arr (hR : RM E σ th r ar h) {k : Nat} (hk : k < 37) (hr : ar k ≠ r) {e : va_E} {σ1 : MT} (hF : mF σ1 th ar = mF σ th ar)
    (hI : ∀ k' n, (k', n) ∈ mIs → (k' ≠ k → mI σ1 k' = mI σ k') ∧ (k' = k → e = .inl (E 0, n, .inl (mI σ1 k'))))
    (hK : ∀ k' n, (k', n) ∈ mKs → (k' ≠ k → mK σ1 k' = mK σ k') ∧ (k' = k → e = .inl (E 0, n, .inl (fun j => nI (mK σ1 k' j)))))
    (hL : ∀ k' n, (k', n) ∈ mLs → (k' ≠ k → mL σ1 k' = mL σ k') ∧ (k' = k → e = .inl (E 1, n, .inr (.inl (mL σ1 k')))))
    (hZ : ∀ k' n, (k', n) ∈ mZs → (k' ≠ k → mI σ1 k' = mI σ k') ∧ (k' = k → e = .inl (E 2, n, .inl (mI σ1 k')))) : RM E σ1 th r ar (hset h (ar k) e) := by
  refine ⟨?_, fun k' n hk' => ?_, fun k' n hk' => ?_, fun k' n hk' => ?_, fun k' n hk' => ?_, hR.2.2.2.2.2⟩
  · rw [hset_n (Ne.symm hr), hF]; exact hR.1
  · by_cases hkk : k' = k
    · rw [hkk, hset_s, (hI k' n hk').2 hkk, hkk]
    · rw [hset_n (fun z => hkk (hR.2.2.2.2.2 _ _ (mI_lt hk') hk z)), (hI k' n hk').1 hkk]; exact hR.2.1 k' n hk'
  · by_cases hkk : k' = k
    · rw [hkk, hset_s, (hK k' n hk').2 hkk, hkk]
    · rw [hset_n (fun z => hkk (hR.2.2.2.2.2 _ _ (mK_lt hk') hk z)), (hK k' n hk').1 hkk]; exact hR.2.2.1 k' n hk'
  · by_cases hkk : k' = k
    · rw [hkk, hset_s, (hL k' n hk').2 hkk, hkk]
    · rw [hset_n (fun z => hkk (hR.2.2.2.2.2 _ _ (mL_lt hk') hk z)), (hL k' n hk').1 hkk]; exact hR.2.2.2.1 k' n hk'
  · by_cases hkk : k' = k
    · rw [hkk, hset_s, (hZ k' n hk').2 hkk, hkk]
    · rw [hset_n (fun z => hkk (hR.2.2.2.2.2 _ _ (mZ_lt hk') hk z)), (hZ k' n hk').1 hkk]; exact hR.2.2.2.2.1 k' n hk'
theorem mApart : (∀ q ∈ mIs, ∀ q' ∈ mKs ++ (mLs ++ mZs), q.1 ≠ q'.1) ∧ (∀ q ∈ mKs, ∀ q' ∈ mLs ++ mZs, q.1 ≠ q'.1) ∧ (∀ q ∈ mLs, ∀ q' ∈ mZs, q.1 ≠ q'.1) := by decide +kernel
theorem mSame : (∀ q ∈ mIs, ∀ q' ∈ mIs, q.1 = q'.1 → q.2 = q'.2) ∧ (∀ q ∈ mKs, ∀ q' ∈ mKs, q.1 = q'.1 → q.2 = q'.2) ∧ (∀ q ∈ mLs, ∀ q' ∈ mLs, q.1 = q'.1 → q.2 = q'.2) ∧ (∀ q ∈ mZs, ∀ q' ∈ mZs, q.1 = q'.1 → q.2 = q'.2) := by decide +kernel
theorem mKs_nc : ∀ q ∈ mKs, q.1 ≠ 1 ∧ q.1 ≠ 2 ∧ q.1 ≠ 8 ∧ q.1 ≠ 11 ∧ q.1 ≠ 20 ∧ q.1 ≠ 30 ∧ q.1 ≠ 34 := by decide +kernel
theorem mLs_nc : ∀ q ∈ mLs, q.1 ≠ 35 := by decide +kernel
theorem upd_mSI (σ : MT) (k j : Nat) (x : Int32) : upd (mI σ k) j x = mI (mSI σ k j x) k := by
  funext b
  rw [mSI_I]
  simp [upd]
theorem RM.putI {k n : Nat} (hR : RM E σ th r ar h) (hk : (k, n) ∈ mIs) (j : Nat) (x : Int32) : RM E (mSI σ k j x) th r ar (hset h (ar k) (.inl (E 0, n, .inl (upd (mI σ k) j x)))) := by
  refine hR.arr (mI_lt hk) (hR.rne (hR.2.1 k n hk)) rfl (fun k' n' hk' => ⟨fun z => ?_, fun z => ?_⟩) (fun k' n' hk' => ⟨fun _ => rfl, fun z => absurd z.symm (mApart.1 _ hk _ (List.mem_append_left _ hk'))⟩) (fun k' n' hk' => ⟨fun _ => rfl, fun z => absurd z.symm (mApart.1 _ hk _ (List.mem_append_right _ (List.mem_append_left _ hk')))⟩) (fun k' n' hk' => ⟨fun z => ?_, fun z => absurd z.symm (mApart.1 _ hk _ (List.mem_append_right _ (List.mem_append_right _ hk')))⟩)
  · funext b; rw [mSI_I, if_neg (fun q => z q.1)]
  · rw [upd_mSI, z, show n = n' from mSame.1 _ hk _ hk' z.symm]
  · funext b; rw [mSI_I, if_neg (fun q => z q.1)]
theorem RM.putZ {k n : Nat} (hR : RM E σ th r ar h) (hk : (k, n) ∈ mZs) (j : Nat) (x : Int32) : RM E (mSI σ k j x) th r ar (hset h (ar k) (.inl (E 2, n, .inl (upd (mI σ k) j x)))) := by
  refine hR.arr (mZ_lt hk) (hR.rne (hR.2.2.2.2.1 k n hk)) rfl (fun k' n' hk' => ⟨fun z => ?_, fun z => absurd z (mApart.1 _ hk' _ (List.mem_append_right _ (List.mem_append_right _ hk)))⟩) (fun k' n' hk' => ⟨fun _ => rfl, fun z => absurd z (mApart.2.1 _ hk' _ (List.mem_append_right _ hk))⟩) (fun k' n' hk' => ⟨fun _ => rfl, fun z => absurd z (mApart.2.2 _ hk' _ hk)⟩) (fun k' n' hk' => ⟨fun z => ?_, fun z => ?_⟩)
  · funext b; rw [mSI_I, if_neg (fun q => z q.1)]
  · funext b; rw [mSI_I, if_neg (fun q => z q.1)]
  · rw [upd_mSI, z, show n = n' from mSame.2.2.2 _ hk _ hk' z.symm]
theorem RM.putL {k n : Nat} (hR : RM E σ th r ar h) (hk : (k, n) ∈ mLs) (j : Nat) (x : Int64) : RM E (mSL σ k j x) th r ar (hset h (ar k) (.inl (E 1, n, .inr (.inl (vp_updL (mL σ k) j x))))) := by
  have hF : mF (mSL σ k j x) th ar = mF σ th ar := by
    have h35 := mLs_nc _ hk
    simp only [mF, mSL_L, mSL_N]
    rw [if_neg (fun q => h35 q.1.symm)]
  refine hR.arr (mL_lt hk) (hR.rne (hR.2.2.2.1 k n hk)) hF (fun k' n' hk' => ⟨fun _ => rfl, fun z => absurd z (mApart.1 _ hk' _ (List.mem_append_right _ (List.mem_append_left _ hk)))⟩) (fun k' n' hk' => ⟨fun _ => rfl, fun z => absurd z (mApart.2.1 _ hk' _ (List.mem_append_left _ hk))⟩) (fun k' n' hk' => ⟨fun z => ?_, fun z => ?_⟩) (fun k' n' hk' => ⟨fun _ => rfl, fun z => absurd z.symm (mApart.2.2 _ hk _ hk')⟩)
  · funext b; rw [mSL_L, if_neg (fun q => z q.1)]
  · have h9 : vp_updL (mL σ k) j x = mL (mSL σ k j x) k := by funext b; rw [mSL_L]; simp [vp_updL]
    rw [h9, z, show n = n' from mSame.2.2.1 _ hk _ hk' z.symm]
theorem RM.putK {k n : Nat} (hR : RM E σ th r ar h) (hk : (k, n) ∈ mKs) (j : Nat) (x : Nat) : RM E (mSK σ k j x) th r ar (hset h (ar k) (.inl (E 0, n, .inl (upd (fun j => nI (mK σ k j)) j (nI x))))) := by
  have hF : mF (mSK σ k j x) th ar = mF σ th ar := by
    obtain ⟨a1, a2, a3, a4, a5, a6, a7⟩ := mKs_nc _ hk
    simp only [mF, mSK_L, mSK_N]
    rw [if_neg (fun q => a1 q.1.symm), if_neg (fun q => a2 q.1.symm), if_neg (fun q => a3 q.1.symm), if_neg (fun q => a4 q.1.symm), if_neg (fun q => a5 q.1.symm), if_neg (fun q => a6 q.1.symm), if_neg (fun q => a7 q.1.symm)]
  refine hR.arr (mK_lt hk) (hR.rne (hR.2.2.1 k n hk)) hF (fun k' n' hk' => ⟨fun _ => rfl, fun z => absurd z (mApart.1 _ hk' _ (List.mem_append_left _ hk))⟩) (fun k' n' hk' => ⟨fun z => ?_, fun z => ?_⟩) (fun k' n' hk' => ⟨fun _ => rfl, fun z => absurd z.symm (mApart.2.1 _ hk _ (List.mem_append_left _ hk'))⟩) (fun k' n' hk' => ⟨fun _ => rfl, fun z => absurd z.symm (mApart.2.1 _ hk _ (List.mem_append_right _ hk'))⟩)
  · funext b; rw [mSK_K, if_neg (fun q => z q.1)]
  · have h9 : upd (fun j => nI (mK σ k j)) j (nI x) = fun b => nI (mK (mSK σ k j x) k b) := by
      funext b
      rw [mSK_K]
      by_cases hb : b = j <;> simp [upd, hb]
    rw [h9, z, show n = n' from mSame.2.1 _ hk _ hk' z.symm]
/-- a field of the reference's object anew -/
theorem RM.obj (hR : RM E σ th r ar h) {σ1 : MT} {th1 : Int32} {fs : List Value} (hf : fs = mF σ1 th1 ar) (h1 : σ1.1 = σ.1) (hL : ∀ k n, (k, n) ∈ mLs → mL σ1 k = mL σ k) (hK : ∀ k n, (k, n) ∈ mKs → mK σ1 k = mK σ k) : RM E σ1 th1 r ar (hset h r (.inr (8, fs))) := by
  have hI : ∀ k, mI σ1 k = mI σ k := fun k => by funext b; unfold mI; rw [h1]
  refine ⟨by rw [hset_s, hf], fun k' n hk' => ?_, fun k' n hk' => ?_, fun k' n hk' => ?_, fun k' n hk' => ?_, hR.2.2.2.2.2⟩
  · rw [hset_n (hR.rne (hR.2.1 k' n hk')), hI]; exact hR.2.1 k' n hk'
  · rw [hset_n (hR.rne (hR.2.2.1 k' n hk')), hK k' n hk']; exact hR.2.2.1 k' n hk'
  · rw [hset_n (hR.rne (hR.2.2.2.1 k' n hk')), hL k' n hk']; exact hR.2.2.2.1 k' n hk'
  · rw [hset_n (hR.rne (hR.2.2.2.2.1 k' n hk')), hI]; exact hR.2.2.2.2.1 k' n hk'
theorem RM.putTh (hR : RM E σ th r ar h) (x : Int32) : RM E σ x r ar (hset h r (.inr (8, (mF σ th ar).set 0 (.int x)))) := hR.obj rfl rfl (fun _ _ _ => rfl) (fun _ _ _ => rfl)
theorem RM.putN (hR : RM E σ th r ar h) {k : Nat} (hk : k = 1 ∨ k = 2 ∨ k = 8 ∨ k = 11 ∨ k = 20 ∨ k = 30 ∨ k = 34) (x : Nat) : RM E (mSK σ k 0 x) th r ar (hset h r (.inr (8, (mF σ th ar).set k (.int (nI x))))) := by
  refine hR.obj ?_ rfl (fun _ _ _ => rfl) (fun k' n hk' => ?_)
  · rcases hk with rfl | rfl | rfl | rfl | rfl | rfl | rfl <;> rfl
  · funext b
    rw [mSK_K, if_neg]
    intro q
    obtain ⟨a1, a2, a3, a4, a5, a6, a7⟩ := mKs_nc _ hk'
    have hq := q.1
    simp only at a1 a2 a3 a4 a5 a6 a7
    omega
theorem RM.putR (hR : RM E σ th r ar h) (x : Int64) : RM E (mSL σ 35 0 x) th r ar (hset h r (.inr (8, (mF σ th ar).set 35 (.long x)))) := by
  refine hR.obj rfl rfl (fun k' n hk' => ?_) (fun _ _ _ => rfl)
  funext b
  rw [mSL_L, if_neg (fun q => mLs_nc _ hk' q.1)]
end RMP
theorem MW.sI {σ : MT} (hW : MW σ) {k : Nat} (hk : k ≠ 26 ∧ k ≠ 27 ∧ k ≠ 28 ∧ k ≠ 36) (j : Nat) (x : Int32) : MW (mSI σ k j x) := by
  obtain ⟨w, w9, w12, w21, w22, w23, w25, w31, z26, z27, z28, z36⟩ := hW
  obtain ⟨a1, a2, a3, a4⟩ := hk
  refine ⟨w, w9, w12, w21, w22, w23, w25, w31, fun i => ?_, fun i => ?_, fun i => ?_, fun i => ?_⟩
  · rw [mSI_I, if_neg (fun q => a1 q.1.symm)]; exact z26 i
  · rw [mSI_I, if_neg (fun q => a2 q.1.symm)]; exact z27 i
  · rw [mSI_I, if_neg (fun q => a3 q.1.symm)]; exact z28 i
  · rw [mSI_I, if_neg (fun q => a4 q.1.symm)]; exact z36 i
theorem MW.sZ {σ : MT} (hW : MW σ) (k j : Nat) (x : Int32) (hx : x = 0 ∨ x = 1) : MW (mSI σ k j x) := by
  obtain ⟨w, w9, w12, w21, w22, w23, w25, w31, z26, z27, z28, z36⟩ := hW
  refine ⟨w, w9, w12, w21, w22, w23, w25, w31, fun i => ?_, fun i => ?_, fun i => ?_, fun i => ?_⟩
  · rw [mSI_I]; split
    · exact hx
    · exact z26 i
  · rw [mSI_I]; split
    · exact hx
    · exact z27 i
  · rw [mSI_I]; split
    · exact hx
    · exact z28 i
  · rw [mSI_I]; split
    · exact hx
    · exact z36 i
theorem MW.sL {σ : MT} (hW : MW σ) (k j : Nat) (x : Int64) : MW (mSL σ k j x) := hW
def XO (lo : Nat) (D : va_G) (h : XW) (H : Heap) : Prop := (∀ a e, h a = some e → lo ≤ a) ∧ (∀ a e, h a = some e → va_at D vwCl (a, e) H)
/-- it answers some v, and leaves some world -/
def xQ (lo : Nat) (D : va_G) (post : Option Value → XW → Prop) : Array Value → State → Outcome → State → Prop := fun _ st oc t => (∃ (v : Option Value) (h : XW), oc = .returned v ∧ post v h ∧ XO lo D h t.heap) ∧ va_F (xA lo) st t
section XQR
variable {p : Program} {l : Launch} {e : Env} {R : Room} {s : State} {m : MethodId} {args : Array Value} {below : List Frame} {meth : Method} {c : Code} {H : Heap} {locs : List Loc} {cells slots : Nat} {Q : State → Prop}
variable {cc : ByteArray} {pc : Nat} {ls : Array Slot} {rest st0 : List Value} {D : va_G} {E : Nat → ClassId} {h h0 : XW} {lo n i r : Nat} {ar : Nat → Nat} {σ : MT} {th : Int32} {H0 : Heap} {Ts : List Cond} {post : Option Value → XW → Prop}
theorem XI.O (I : XI lo D E h s H) : XO lo D h H := ⟨I.2.1, I.2.2.1⟩
theorem xriQ {v : Int32} (hx : p.tables.exec = Jvm.exec) (hb : c.code = cc) (hr : meth.sig.returnType = some .int) (hlocks : meth.locks = false) (hdg : decode cc pc = .ok (.ireturn, 1)) (I : XI lo D E h s H) (hS : va_S (xA lo) s.heap H locs) (hp : post (some (.int v)) h) : W p l e R s m args below meth c H locs cells slots (MQ below (xQ lo D post) args s cells slots (xA lo)) (F0 m pc ls [.int v]) :=
  W.iret hx hb hr (fun t ht _ => ⟨⟨_, h, rfl, hp, by rw [ht]; exact I.O⟩, hS.F ht⟩) hS.2.2 hdg hlocks
theorem xrzQ {v : Int32} (hx : p.tables.exec = Jvm.exec) (hb : c.code = cc) (hr : meth.sig.returnType = some .boolean) (hlocks : meth.locks = false) (hdg : decode cc pc = .ok (.ireturn, 1)) (h01 : v = 0 ∨ v = 1) (I : XI lo D E h s H) (hS : va_S (xA lo) s.heap H locs) (hp : post (some (.int v)) h) : W p l e R s m args below meth c H locs cells slots (MQ below (xQ lo D post) args s cells slots (xA lo)) (F0 m pc ls [.int v]) :=
  W.zret hx hb hr (xnb h01) (fun t ht _ => ⟨⟨_, h, rfl, hp, by rw [ht]; exact I.O⟩, hS.F ht⟩) hS.2.2 hdg hlocks
theorem xrlQ {v : Int64} (hx : p.tables.exec = Jvm.exec) (hb : c.code = cc) (hr : meth.sig.returnType = some .long) (hlocks : meth.locks = false) (hdg : decode cc pc = .ok (.lreturn, 1)) (I : XI lo D E h s H) (hS : va_S (xA lo) s.heap H locs) (hp : post (some (.long v)) h) : W p l e R s m args below meth c H locs cells slots (MQ below (xQ lo D post) args s cells slots (xA lo)) (F0 m pc ls [.long v]) :=
  W.lret hx hb hr (fun t ht _ => ⟨⟨_, h, rfl, hp, by rw [ht]; exact I.O⟩, hS.F ht⟩) hS.2.2 hdg hlocks
theorem xrvQ (hx : p.tables.exec = Jvm.exec) (hb : c.code = cc) (hr : meth.sig.returnType = none) (hlocks : meth.locks = false) (hdg : decode cc pc = .ok (.return_, 1)) (I : XI lo D E h s H) (hS : va_S (xA lo) s.heap H locs) (hp : post none h) : W p l e R s m args below meth c H locs cells slots (MQ below (xQ lo D post) args s cells slots (xA lo)) (F0 m pc ls []) :=
  W.vret hx hb hr (fun t ht _ => ⟨⟨_, h, rfl, hp, by rw [ht]; exact I.O⟩, hS.F ht⟩) hS.2.2 hdg hlocks
/-- a call that may write -/
theorem xcQ {aa : Array Value} {mc ms : Nat} {h1 : XW} (hr : va_Run p l e R s m args below meth c H locs cells slots mc ms (F0 m pc ls st0) rest (xQ lo D post aa) (xA lo)) (I : XI lo D E h1 s H) (hS : va_S (xA lo) H0 H locs)
    (kk : ∀ (v : Option Value) (h2 : XW) (H1 : Heap) (locs1 : List Loc), post v h2 → XI lo D E h2 s H1 → va_S (xA lo) H0 H1 locs1 → W p l e R s m args below meth c H1 locs1 (cells + mc) (slots + ms) Q (F0 m (pc + 3) ls (v.toList ++ rest))) : W p l e R s m args below meth c H locs cells slots Q (F0 m pc ls st0) := by
  intro T hT X
  obtain ⟨v, st₀, t, T', L, e0, X', hL, e1, e2, ⟨⟨v9, h2, hv, hp, hO⟩, hF⟩, st⟩ := hr T hT X
  cases hv
  obtain ⟨hz, hk⟩ := hF
  rw [e0] at hz hk
  obtain ⟨t2, a1, b1⟩ := kk v h2 T'.heap (locs ++ L) hp (XI.step (H0 := H) (locs := []) I hO.1 (by rw [e1]; exact hO.2) (by rw [e1]; exact hz) (fun q h1 h2 => by rw [e1]; exact hk q h1 h2))
    ⟨Nat.le_trans hS.1 (by rw [e1]; exact hz), fun q g1 g2 => by rw [e1, hk q (Nat.lt_of_lt_of_le g1 hS.1) g2]; exact hS.2.1 q g1 g2, fun q hq => by
      rcases List.mem_append.mp hq with g | g
      · exact hS.2.2 q g
      · exact hL q g⟩ T' rfl X'
  exact ⟨t2, st t2 a1, b1⟩
theorem xcvQ {y : MethodName} {bytes : ByteArray} {maxL nL na index ci N mc ms : Nat} {ret : Option FieldType} {ws : List Cond} {rm : Room} {own C : String} {T : u_T} {b : Addr} {As fs : List Value} (S : CallFix p m c cc nL s args Ts own) (hM : Met l y ws rm (xP lo D E h (.ref b :: As)) (xQ lo D post) mc ms (xA lo)) (cw : CallW R s args own C index y bytes maxL ret ws rm mc ms na) (I : XI lo D E h s H) (hS : va_S (xA lo) H0 H locs) (hbc : h b = some (.inr (ci, fs))) (hc : vwCl[ci]? = some (C, T, N)) (hn : As.length = na) (hsize : ls.size = nL) (hst : st0 = As.reverse ++ .ref b :: rest) (hW : (rest.map fun v => v.category).sum ≤ 8) (hdg : decode cc pc = .ok (.invokevirtual index, 3)) (hf : cells + mc ≤ R.cells ∧ slots + ms ≤ R.slots)
    (kk : ∀ (v : Option Value) (h2 : XW) (H1 : Heap) (locs1 : List Loc), post v h2 → XI lo D E h2 s H1 → va_S (xA lo) H0 H1 locs1 → W p l e R s m args below meth c H1 locs1 (cells + mc) (slots + ms) Q (F0 m (pc + 3) ls (v.toList ++ rest))) : W p l e R s m args below meth c H locs cells slots Q (F0 m pc ls st0) :=
  xcQ (va_runV (As := As) (rest := rest) S hM cw ⟨xP_blind, va_recv I.2.2.2.1 (xone I.2.2.1 hbc) hc (q0 := 0) rfl, fun U hU hW => ⟨rfl, by show XI lo D E h U U.heap; rw [hU]; exact XI.warm hW I⟩⟩ rfl hn hsize hst (lv_room hW) hdg hf) I hS kk
/-- the reference's stores -/
theorem xiM {x : Int32} (k : Nat) (hx : p.tables.exec = Jvm.exec) (hb : c.code = cc) (I : XI lo D E h s H) (hS : va_S (xA lo) H0 H locs) (hR : RM E σ th r ar h) (hF : xF r ar h0 h) (hk : (k, n) ∈ mIs) (hi : i < n) (hn : n < 2 ^ 31) (hdg : decode cc pc = .ok (.iastore, 1))
    (kk : ∀ (H : Heap) (locs : List Loc) (h : XW), XI lo D E h s H → RM E (mSI σ k i x) th r ar h → xF r ar h0 h → va_S (xA lo) H0 H locs → W p l e R s m args below meth c H locs cells slots Q (F0 m (pc + 1) ls rest)) : W p l e R s m args below meth c H locs cells slots Q (F0 m pc ls (.int x :: .int (nI i) :: .ref (ar k) :: rest)) :=
  xiast hx hb I hS (hR.2.1 k n hk) hi hn hdg (fun H1 locs1 I1 S1 => kk H1 locs1 _ I1 (hR.putI hk i x) (hF.a (mI_lt hk)) S1)
theorem xkM {x : Nat} (k : Nat) (hx : p.tables.exec = Jvm.exec) (hb : c.code = cc) (I : XI lo D E h s H) (hS : va_S (xA lo) H0 H locs) (hR : RM E σ th r ar h) (hF : xF r ar h0 h) (hk : (k, n) ∈ mKs) (hi : i < n) (hn : n < 2 ^ 31) (hdg : decode cc pc = .ok (.iastore, 1))
    (kk : ∀ (H : Heap) (locs : List Loc) (h : XW), XI lo D E h s H → RM E (mSK σ k i x) th r ar h → xF r ar h0 h → va_S (xA lo) H0 H locs → W p l e R s m args below meth c H locs cells slots Q (F0 m (pc + 1) ls rest)) : W p l e R s m args below meth c H locs cells slots Q (F0 m pc ls (.int (nI x) :: .int (nI i) :: .ref (ar k) :: rest)) :=
  xiast hx hb I hS (hR.2.2.1 k n hk) hi hn hdg (fun H1 locs1 I1 S1 => kk H1 locs1 _ I1 (hR.putK hk i x) (hF.a (mK_lt hk)) S1)
theorem xlM {x : Int64} (k : Nat) (hx : p.tables.exec = Jvm.exec) (hb : c.code = cc) (I : XI lo D E h s H) (hS : va_S (xA lo) H0 H locs) (hR : RM E σ th r ar h) (hF : xF r ar h0 h) (hk : (k, n) ∈ mLs) (hi : i < n) (hn : n < 2 ^ 31) (hdg : decode cc pc = .ok (.lastore, 1))
    (kk : ∀ (H : Heap) (locs : List Loc) (h : XW), XI lo D E h s H → RM E (mSL σ k i x) th r ar h → xF r ar h0 h → va_S (xA lo) H0 H locs → W p l e R s m args below meth c H locs cells slots Q (F0 m (pc + 1) ls rest)) : W p l e R s m args below meth c H locs cells slots Q (F0 m pc ls (.long x :: .int (nI i) :: .ref (ar k) :: rest)) :=
  xlast hx hb I hS (hR.2.2.2.1 k n hk) hi hn hdg (fun H1 locs1 I1 S1 => kk H1 locs1 _ I1 (hR.putL hk i x) (hF.a (mL_lt hk)) S1)
theorem xzM {x : Int32} (k : Nat) (hx : p.tables.exec = Jvm.exec) (hb : c.code = cc) (I : XI lo D E h s H) (hS : va_S (xA lo) H0 H locs) (hR : RM E σ th r ar h) (hF : xF r ar h0 h) (hk : (k, n) ∈ mZs) (hi : i < n) (hn : n < 2 ^ 31) (hdg : decode cc pc = .ok (.bastore, 1))
    (kk : ∀ (H : Heap) (locs : List Loc) (h : XW), XI lo D E h s H → RM E (mSI σ k i (vp_nar .boolean x)) th r ar h → xF r ar h0 h → va_S (xA lo) H0 H locs → W p l e R s m args below meth c H locs cells slots Q (F0 m (pc + 1) ls rest)) : W p l e R s m args below meth c H locs cells slots Q (F0 m pc ls (.int x :: .int (nI i) :: .ref (ar k) :: rest)) :=
  xzast' hx hb I hS (hR.2.2.2.2.1 k n hk) hi hn hdg (fun H1 locs1 I1 S1 => kk H1 locs1 _ I1 (hR.putZ hk i _) (hF.a (mZ_lt hk)) S1)
theorem xputM {own : String} {index : Nat} {v : Value} {ty : FieldType} {σ1 : MT} {th1 : Int32} (k : Nat) (hx : p.tables.exec = Jvm.exec) (hb : c.code = cc) (hts : ∀ w ∈ Ts, w.before args s = true) (hin : ∀ w ∈ u_ws RX8 TX8 37, w ∈ Ts) (hown : s.vm.findClass own = some m.cls) (I : XI lo D E h s H) (hS : va_S (xA lo) H0 H locs) (hR : RM E σ th r ar h) (hF : xF r ar h0 h) (hk : k < 37) (hlink : Cond.fieldLink own index RX8 (TX8 k).2.1 (TX8 k).2.2.1 ∈ Ts) (hfst : (TX8 k).1 = RX8) (hfin : (TX8 k).2.2.2 = false) (hd : parseFieldDescriptor (TX8 k).2.2.1 = some ty) (hn : narrow ty v = v) (hfit : fits ty v = true) (hR1 : RM E σ1 th1 r ar (hset h r (.inr (8, (mF σ th ar).set k v)))) (hdg : decode cc pc = .ok (.putfield index, 3))
    (kk : ∀ (H : Heap) (locs : List Loc) (h : XW), XI lo D E h s H → RM E σ1 th1 r ar h → xF r ar h0 h → va_S (xA lo) H0 H locs → W p l e R s m args below meth c H locs cells slots Q (F0 m (pc + 3) ls rest)) : W p l e R s m args below meth c H locs cells slots Q (F0 m pc ls (v :: .ref r :: rest)) :=
  xput k hx hb hts hin tyX8 tyX8_ok nmX8 hown I hS hR.1 rfl hk hlink hfst hfin hd hn hfit hk hdg (fun H1 locs1 I1 S1 => kk H1 locs1 _ I1 hR1 hF.r S1)
end XQR
theorem xF.tr {r : Nat} {ar : Nat → Nat} {h h1 h2 : XW} (a : xF r ar h h1) (b : xF r ar h1 h2) : xF r ar h h2 := fun q q1 q2 => (b q q1 q2).trans (a q q1 q2)
theorem vnar01 {x : Int32} : vp_nar .boolean x = 0 ∨ vp_nar .boolean x = 1 := by
  have h : vp_nar .boolean x = x &&& 1 := rfl
  rw [h]
  have hx : ∀ y : BitVec 32, y &&& 1#32 = 0#32 ∨ y &&& 1#32 = 1#32 := by
    intro y
    have h1 : (y &&& 1#32).toNat = y.toNat % 2 := by rw [BitVec.toNat_and]; exact Nat.and_one_is_mod _
    rcases Nat.mod_two_eq_zero_or_one y.toNat with h2 | h2
    · exact Or.inl (BitVec.eq_of_toNat_eq (by rw [h1, h2]; rfl))
    · exact Or.inr (BitVec.eq_of_toNat_eq (by rw [h1, h2]; rfl))
  rcases hx x.toBitVec with h2 | h2
  · exact Or.inl (Int32.toBitVec_inj.mp h2)
  · exact Or.inr (Int32.toBitVec_inj.mp h2)
