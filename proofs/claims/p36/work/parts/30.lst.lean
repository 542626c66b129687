/-! the law's own arrays: tables 0 e, 1 h, 2 r, 3 c, 6 a of naturals; 4 u, 5 p, 7 f of ints; 8 d, 9 paid of longs -/
abbrev LT : Type := (Nat → Nat → Int32) × (Nat → Nat → Int64) × (Nat → Nat → Nat)
def lI (σ : LT) (k j : Nat) : Int32 := σ.1 k j
def lL (σ : LT) (k j : Nat) : Int64 := σ.2.1 k j
def lK (σ : LT) (k j : Nat) : Nat := σ.2.2 k j
def lSI (σ : LT) (k j : Nat) (x : Int32) : LT := (fun a b => if a = k ∧ b = j then x else σ.1 a b, σ.2.1, σ.2.2)
def lSL (σ : LT) (k j : Nat) (x : Int64) : LT := (σ.1, fun a b => if a = k ∧ b = j then x else σ.2.1 a b, σ.2.2)
def lSK (σ : LT) (k j : Nat) (x : Nat) : LT := (σ.1, σ.2.1, fun a b => if a = k ∧ b = j then x else σ.2.2 a b)
theorem lSI_I (σ : LT) (k j : Nat) (x : Int32) (a b : Nat) : lI (lSI σ k j x) a b = if a = k ∧ b = j then x else lI σ a b := rfl
theorem lSI_L (σ : LT) (k j : Nat) (x : Int32) (a b : Nat) : lL (lSI σ k j x) a b = lL σ a b := rfl
theorem lSI_K (σ : LT) (k j : Nat) (x : Int32) (a b : Nat) : lK (lSI σ k j x) a b = lK σ a b := rfl
theorem lSL_I (σ : LT) (k j : Nat) (x : Int64) (a b : Nat) : lI (lSL σ k j x) a b = lI σ a b := rfl
theorem lSL_L (σ : LT) (k j : Nat) (x : Int64) (a b : Nat) : lL (lSL σ k j x) a b = if a = k ∧ b = j then x else lL σ a b := rfl
theorem lSL_K (σ : LT) (k j : Nat) (x : Int64) (a b : Nat) : lK (lSL σ k j x) a b = lK σ a b := rfl
theorem lSK_I (σ : LT) (k j x a b : Nat) : lI (lSK σ k j x) a b = lI σ a b := rfl
theorem lSK_L (σ : LT) (k j x a b : Nat) : lL (lSK σ k j x) a b = lL σ a b := rfl
theorem lSK_K (σ : LT) (k j x a b : Nat) : lK (lSK σ k j x) a b = if a = k ∧ b = j then x else lK σ a b := rfl
def lKs : List (Nat × Nat) := [(0, 40), (1, 16), (2, 9), (3, 64), (6, 6)]
def lIs : List (Nat × Nat) := [(4, 24), (5, 9), (7, 16)]
def lLs : List (Nat × Nat) := [(8, 9), (9, 3)]
def RA (E : Nat → ClassId) (σ : LT) (ar : Nat → Nat) (h : XW) : Prop :=
  (∀ k n, (k, n) ∈ lKs → h (ar k) = some (.inl (E 0, n, .inl (fun j => nI (lK σ k j))))) ∧
  (∀ k n, (k, n) ∈ lIs → h (ar k) = some (.inl (E 0, n, .inl (lI σ k)))) ∧
  (∀ k n, (k, n) ∈ lLs → h (ar k) = some (.inl (E 1, n, .inr (.inl (lL σ k))))) ∧
  (∀ i j, i < 10 → j < 10 → ar i = ar j → i = j)
def lPr (ar : Nat → Nat) (q : Nat) : Prop := ∃ k, k < 10 ∧ q = ar k
theorem lPr.of (ar : Nat → Nat) {k : Nat} (hk : k < 10) : lPr ar (ar k) := ⟨k, hk, rfl⟩
theorem lKs_lt : (∀ k n, (k, n) ∈ lKs → k < 10) ∧ (∀ k n, (k, n) ∈ lIs → k < 10) ∧ (∀ k n, (k, n) ∈ lLs → k < 10) := by
  have h9 : (∀ q ∈ lKs, q.1 < 10) ∧ (∀ q ∈ lIs, q.1 < 10) ∧ (∀ q ∈ lLs, q.1 < 10) := by decide +kernel
  exact ⟨fun k n h => h9.1 _ h, fun k n h => h9.2.1 _ h, fun k n h => h9.2.2 _ h⟩
theorem lApart : (∀ q ∈ lKs, ∀ q' ∈ lIs ++ lLs, q.1 ≠ q'.1) ∧ (∀ q ∈ lIs, ∀ q' ∈ lLs, q.1 ≠ q'.1) := by decide +kernel
theorem lSame : (∀ q ∈ lKs, ∀ q' ∈ lKs, q.1 = q'.1 → q.2 = q'.2) ∧ (∀ q ∈ lIs, ∀ q' ∈ lIs, q.1 = q'.1 → q.2 = q'.2) ∧ (∀ q ∈ lLs, ∀ q' ∈ lLs, q.1 = q'.1 → q.2 = q'.2) := by decide +kernel
section RLP
variable {E : Nat → ClassId} {σ : LT} {ar : Nat → Nat} {h : XW}
theorem RA.arr (hR : RA E σ ar h) {k : Nat} (hk : k < 10) {e : va_E} {σ1 : LT}
    (hK : ∀ k' n, (k', n) ∈ lKs → (k' ≠ k → lK σ1 k' = lK σ k') ∧ (k' = k → e = .inl (E 0, n, .inl (fun j => nI (lK σ1 k' j)))))
    (hI : ∀ k' n, (k', n) ∈ lIs → (k' ≠ k → lI σ1 k' = lI σ k') ∧ (k' = k → e = .inl (E 0, n, .inl (lI σ1 k'))))
    (hL : ∀ k' n, (k', n) ∈ lLs → (k' ≠ k → lL σ1 k' = lL σ k') ∧ (k' = k → e = .inl (E 1, n, .inr (.inl (lL σ1 k'))))) : RA E σ1 ar (hset h (ar k) e) := by
  refine ⟨fun k' n hk' => ?_, fun k' n hk' => ?_, fun k' n hk' => ?_, hR.2.2.2⟩
  · by_cases hkk : k' = k
    · rw [hkk, hset_s, (hK k' n hk').2 hkk, hkk]
    · rw [hset_n (fun z => hkk (hR.2.2.2 _ _ (lKs_lt.1 _ _ hk') hk z)), (hK k' n hk').1 hkk]; exact hR.1 k' n hk'
  · by_cases hkk : k' = k
    · rw [hkk, hset_s, (hI k' n hk').2 hkk, hkk]
    · rw [hset_n (fun z => hkk (hR.2.2.2 _ _ (lKs_lt.2.1 _ _ hk') hk z)), (hI k' n hk').1 hkk]; exact hR.2.1 k' n hk'
  · by_cases hkk : k' = k
    · rw [hkk, hset_s, (hL k' n hk').2 hkk, hkk]
    · rw [hset_n (fun z => hkk (hR.2.2.2 _ _ (lKs_lt.2.2 _ _ hk') hk z)), (hL k' n hk').1 hkk]; exact hR.2.2.1 k' n hk'
theorem RA.putK {k n : Nat} (hR : RA E σ ar h) (hk : (k, n) ∈ lKs) (j x : Nat) : RA E (lSK σ k j x) ar (hset h (ar k) (.inl (E 0, n, .inl (upd (fun j => nI (lK σ k j)) j (nI x))))) := by
  refine hR.arr (lKs_lt.1 _ _ hk) (fun k' n' hk' => ⟨fun z => ?_, fun z => ?_⟩) (fun k' n' hk' => ⟨fun _ => rfl, fun z => absurd z.symm (lApart.1 _ hk _ (List.mem_append_left _ hk'))⟩) (fun k' n' hk' => ⟨fun _ => rfl, fun z => absurd z.symm (lApart.1 _ hk _ (List.mem_append_right _ hk'))⟩)
  · funext b; rw [lSK_K, if_neg (fun q => z q.1)]
  · have h9 : upd (fun j => nI (lK σ k j)) j (nI x) = fun b => nI (lK (lSK σ k j x) k b) := by
      funext b
      rw [lSK_K]
      by_cases hb : b = j <;> simp [upd, hb]
    rw [h9, z, show n = n' from lSame.1 _ hk _ hk' z.symm]
theorem RA.putI {k n : Nat} (hR : RA E σ ar h) (hk : (k, n) ∈ lIs) (j : Nat) (x : Int32) : RA E (lSI σ k j x) ar (hset h (ar k) (.inl (E 0, n, .inl (upd (lI σ k) j x)))) := by
  refine hR.arr (lKs_lt.2.1 _ _ hk) (fun k' n' hk' => ⟨fun _ => rfl, fun z => absurd z (lApart.1 _ hk' _ (List.mem_append_left _ hk))⟩) (fun k' n' hk' => ⟨fun z => ?_, fun z => ?_⟩) (fun k' n' hk' => ⟨fun _ => rfl, fun z => absurd z.symm (lApart.2 _ hk _ hk')⟩)
  · funext b; rw [lSI_I, if_neg (fun q => z q.1)]
  · have h9 : upd (lI σ k) j x = lI (lSI σ k j x) k := by funext b; rw [lSI_I]; simp [upd]
    rw [h9, z, show n = n' from lSame.2.1 _ hk _ hk' z.symm]
theorem RA.putL {k n : Nat} (hR : RA E σ ar h) (hk : (k, n) ∈ lLs) (j : Nat) (x : Int64) : RA E (lSL σ k j x) ar (hset h (ar k) (.inl (E 1, n, .inr (.inl (vp_updL (lL σ k) j x))))) := by
  refine hR.arr (lKs_lt.2.2 _ _ hk) (fun k' n' hk' => ⟨fun _ => rfl, fun z => absurd z (lApart.1 _ hk' _ (List.mem_append_right _ hk))⟩) (fun k' n' hk' => ⟨fun _ => rfl, fun z => absurd z (lApart.2 _ hk' _ hk)⟩) (fun k' n' hk' => ⟨fun z => ?_, fun z => ?_⟩)
  · funext b; rw [lSL_L, if_neg (fun q => z q.1)]
  · have h9 : vp_updL (lL σ k) j x = lL (lSL σ k j x) k := by funext b; rw [lSL_L]; simp [vp_updL]
    rw [h9, z, show n = n' from lSame.2.2 _ hk _ hk' z.symm]
theorem RA.keep {h1 : XW} (hR : RA E σ ar h) (hF : cF (lPr ar) h h1) : RA E σ ar h1 :=
  ⟨fun k n hk => (hF _ (lPr.of ar (lKs_lt.1 _ _ hk))).trans (hR.1 k n hk), fun k n hk => (hF _ (lPr.of ar (lKs_lt.2.1 _ _ hk))).trans (hR.2.1 k n hk), fun k n hk => (hF _ (lPr.of ar (lKs_lt.2.2 _ _ hk))).trans (hR.2.2.1 k n hk), hR.2.2.2⟩
end RLP
def lF (σ : LT) : Nat := tn (lI σ 7 12)
def LW (σ : LT) : Prop :=
  (∀ k, lK σ 0 (3 * k) < 5) ∧ (∀ s, s < 8 → lK σ 1 s < 3) ∧ (∀ k, lK σ 3 (6 * k) < 5) ∧ (∀ k, lK σ 3 (6 * k + 2) < 300) ∧ (lI σ 7 12 = nI (lF σ) ∧ lF σ ≤ 3) ∧ (∀ t j, lK σ t j < 1073741824) ∧ (∀ s, lK σ 1 (8 + s) ≤ 999)
theorem LW.sK {σ : LT} (hW : LW σ) (k j x : Nat) (hx : x < 1073741824) (h0 : k = 0 → (∃ i, j = 3 * i) → x < 5) (h1 : k = 1 → j < 8 → x < 3) (h3 : k = 3 → (∃ i, j = 6 * i) → x < 5) (h4 : k = 3 → (∃ i, j = 6 * i + 2) → x < 300) (h5 : k = 1 → (∃ i, j = 8 + i) → x ≤ 999) : LW (lSK σ k j x) := by
  obtain ⟨a, b, c, d, e, f, g⟩ := hW
  refine ⟨fun i => ?_, fun s hs => ?_, fun i => ?_, fun i => ?_, e, fun t q => ?_, fun i => ?_⟩
  · rw [lSK_K]; split
    · rename_i z; exact h0 z.1.symm ⟨i, z.2.symm⟩
    · exact a i
  · rw [lSK_K]; split
    · rename_i z; exact h1 z.1.symm (z.2 ▸ hs)
    · exact b s hs
  · rw [lSK_K]; split
    · rename_i z; exact h3 z.1.symm ⟨i, z.2.symm⟩
    · exact c i
  · rw [lSK_K]; split
    · rename_i z; exact h4 z.1.symm ⟨i, z.2.symm⟩
    · exact d i
  · rw [lSK_K]; split
    · exact hx
    · exact f t q
  · rw [lSK_K]; split
    · rename_i z; exact h5 z.1.symm ⟨i, z.2.symm⟩
    · exact g i
theorem LW.sL {σ : LT} (hW : LW σ) (k j : Nat) (x : Int64) : LW (lSL σ k j x) := hW
theorem LW.sI {σ : LT} (hW : LW σ) (k j : Nat) (x : Int32) (hk : ¬ (7 = k ∧ 12 = j)) : LW (lSI σ k j x) := by
  obtain ⟨a, b, c, d, e, f, g⟩ := hW
  have h9 : lF (lSI σ k j x) = lF σ := by unfold lF; rw [lSI_I, if_neg hk]
  refine ⟨a, b, c, d, ?_, f, g⟩
  rw [h9, lSI_I, if_neg hk]; exact e
theorem LW.sF {σ : LT} (hW : LW σ) (x : Nat) (hx : x ≤ 3) : LW (lSI σ 7 12 (nI x)) := by
  obtain ⟨a, b, c, d, e, f, g⟩ := hW
  have h9 : lF (lSI σ 7 12 (nI x)) = x := by unfold lF; rw [lSI_I, if_pos ⟨rfl, rfl⟩, tn_nI (by omega)]
  refine ⟨a, b, c, d, ?_, f, g⟩
  rw [h9, lSI_I, if_pos ⟨rfl, rfl⟩]; exact ⟨rfl, hx⟩
theorem nI_and {a b : Nat} : nI a &&& nI b = nI (a &&& b) := by
  apply Int32.toBitVec_inj.mp
  show BitVec.ofNat 32 a &&& BitVec.ofNat 32 b = BitVec.ofNat 32 (a &&& b)
  apply BitVec.eq_of_toNat_eq
  simp [BitVec.toNat_and, BitVec.toNat_ofNat, Nat.and_mod_two_pow]
theorem nI_or {a b : Nat} : nI a ||| nI b = nI (a ||| b) := by
  apply Int32.toBitVec_inj.mp
  show BitVec.ofNat 32 a ||| BitVec.ofNat 32 b = BitVec.ofNat 32 (a ||| b)
  apply BitVec.eq_of_toNat_eq
  simp [BitVec.toNat_or, BitVec.toNat_ofNat, Nat.or_mod_two_pow]
/-- low(v, n) -/
def lowN (v : Int32) (n : Nat) : Nat := v.toBitVec.toNat % 2 ^ 31 % n
theorem lowN_lt (v : Int32) {n : Nat} (hn : 0 < n) : lowN v n < n := Nat.mod_lt _ hn
theorem lowN_e (v : Int32) {n : Nat} (h0 : 0 < n) (hn : n < 2 ^ 31) : (v &&& nI 2147483647) - (v &&& nI 2147483647) / nI n * nI n = nI (lowN v n) := by
  rw [pk_and v 31 (by decide)]
  exact pk_rem (Nat.mod_lt _ (by decide)) h0 hn
/-- cell(s, k) -/
def cellV (xs : Nat → Int32) (L k : Nat) : Int32 := if k < L then xs k else nI (1000308321 * (k + 1) + 751363495)
def lcall {α β : Type} (bad : β) (r : String ⊕ α) (f : α → β) : β := match r with
  | .inl _ => bad
  | .inr x => f x
def xPS (b L : Nat) (xs : Nat → Int32) (as : List Value) : Array Value → State → Prop := va_Pc as (fun U => va_X b L xs U U.heap ∧ b < U.heap.size)
theorem xPS_blind {b L : Nat} {xs : Nat → Int32} {as : List Value} : FrameBlind (xPS b L xs as) := fun a U g mk ⟨h1, h2, h3⟩ => ⟨h1, va_X.moved (u := U) (Vm.Alike.refl _) h2, h3⟩
section XLR
variable {p : Program} {l : Launch} {e : Env} {R : Room} {s : State} {m : MethodId} {args : Array Value} {below : List Frame} {meth : Method} {c : Code} {H : Heap} {locs : List Loc} {cells slots : Nat} {Q : State → Prop}
variable {cc : ByteArray} {pc : Nat} {ls : Array Slot} {rest st0 : List Value} {D : va_G} {E : Nat → ClassId} {h h0 : XW} {lo n i : Nat} {H0 : Heap} {Ts : List Cond} {post : Option Value → XW → Prop} {px pxc : String → Prop} {σ : LT} {ar : Nat → Nat} {τ : CT} {ad : Nat → Nat → Nat} {fa : Nat → Nat → Option Nat}
theorem xkS {x : Nat} (k : Nat) (hx : p.tables.exec = Jvm.exec) (hb : c.code = cc) (I : XI lo D E h s H) (hS : va_S (xA lo) H0 H locs) (hL : RA E σ ar h) (hR : RC E (lPr ar) τ ad fa h) (hk : (k, n) ∈ lKs) (hi : i < n) (hn : n < 2 ^ 31) (hdg : decode cc pc = .ok (.iastore, 1))
    (kk : ∀ (H : Heap) (locs : List Loc) (h : XW), XI lo D E h s H → RA E (lSK σ k i x) ar h → RC E (lPr ar) τ ad fa h → va_S (xA lo) H0 H locs → W p l e R s m args below meth c H locs cells slots Q (F0 m (pc + 1) ls rest)) : W p l e R s m args below meth c H locs cells slots Q (F0 m pc ls (.int (nI x) :: .int (nI i) :: .ref (ar k) :: rest)) :=
  xiast hx hb I hS (hL.1 k n hk) hi hn hdg (fun H1 locs1 I1 S1 => kk H1 locs1 _ I1 (hL.putK hk i x) (hR.out (lPr.of ar (lKs_lt.1 _ _ hk))) S1)
theorem xiS {x : Int32} (k : Nat) (hx : p.tables.exec = Jvm.exec) (hb : c.code = cc) (I : XI lo D E h s H) (hS : va_S (xA lo) H0 H locs) (hL : RA E σ ar h) (hR : RC E (lPr ar) τ ad fa h) (hk : (k, n) ∈ lIs) (hi : i < n) (hn : n < 2 ^ 31) (hdg : decode cc pc = .ok (.iastore, 1))
    (kk : ∀ (H : Heap) (locs : List Loc) (h : XW), XI lo D E h s H → RA E (lSI σ k i x) ar h → RC E (lPr ar) τ ad fa h → va_S (xA lo) H0 H locs → W p l e R s m args below meth c H locs cells slots Q (F0 m (pc + 1) ls rest)) : W p l e R s m args below meth c H locs cells slots Q (F0 m pc ls (.int x :: .int (nI i) :: .ref (ar k) :: rest)) :=
  xiast hx hb I hS (hL.2.1 k n hk) hi hn hdg (fun H1 locs1 I1 S1 => kk H1 locs1 _ I1 (hL.putI hk i x) (hR.out (lPr.of ar (lKs_lt.2.1 _ _ hk))) S1)
theorem xlS {x : Int64} (k : Nat) (hx : p.tables.exec = Jvm.exec) (hb : c.code = cc) (I : XI lo D E h s H) (hS : va_S (xA lo) H0 H locs) (hL : RA E σ ar h) (hR : RC E (lPr ar) τ ad fa h) (hk : (k, n) ∈ lLs) (hi : i < n) (hn : n < 2 ^ 31) (hdg : decode cc pc = .ok (.lastore, 1))
    (kk : ∀ (H : Heap) (locs : List Loc) (h : XW), XI lo D E h s H → RA E (lSL σ k i x) ar h → RC E (lPr ar) τ ad fa h → va_S (xA lo) H0 H locs → W p l e R s m args below meth c H locs cells slots Q (F0 m (pc + 1) ls rest)) : W p l e R s m args below meth c H locs cells slots Q (F0 m pc ls (.long x :: .int (nI i) :: .ref (ar k) :: rest)) :=
  xlast hx hb I hS (hL.2.2.1 k n hk) hi hn hdg (fun H1 locs1 I1 S1 => kk H1 locs1 _ I1 (hL.putL hk i x) (hR.out (lPr.of ar (lKs_lt.2.2 _ _ hk))) S1)
/-- a class call that doesn't throw here -/
theorem xcvN {y : MethodName} {bytes : ByteArray} {maxL nL na index ci N mc ms : Nat} {ret : Option FieldType} {ws : List Cond} {rm : Room} {own C : String} {T : u_T} {b : Addr} {As fs : List Value} (S : CallFix p m c cc nL s args Ts own) (hM : vx_Met l y ws rm (xP lo D E h (.ref b :: As)) (xQ lo D post) (xXp lo D h pxc) mc ms (xA lo)) (cw : CallW R s args own C index y bytes maxL ret ws rm mc ms na) (I : XI lo D E h s H) (hS : va_S (xA lo) H0 H locs) (hbc : h b = some (.inr (ci, fs))) (hc : vwCl[ci]? = some (C, T, N)) (hn : As.length = na) (hsize : ls.size = nL) (hst : st0 = As.reverse ++ .ref b :: rest) (hW : (rest.map fun v => v.category).sum ≤ 8) (hdg : decode cc pc = .ok (.invokevirtual index, 3)) (hf : cells + mc ≤ R.cells ∧ slots + ms ≤ R.slots) (hno : ∀ En, ¬ pxc En)
    (kk : ∀ (v : Option Value) (h2 : XW) (H1 : Heap) (locs1 : List Loc), post v h2 → XI lo D E h2 s H1 → va_S (xA lo) H0 H1 locs1 → W p l e R s m args below meth c H1 locs1 (cells + mc) (slots + ms) Q (F0 m (pc + 3) ls (v.toList ++ rest))) : W p l e R s m args below meth c H locs cells slots Q (F0 m pc ls st0) :=
  xcvC S hM cw I hS hbc hc hn hsize hst hW hdg hf kk (fun q En ce H1 locs1 hp => absurd hp (hno En))
/-- a static call that is caught -/
theorem xcsC {y : MethodName} {bytes : ByteArray} {maxL nL na index mc ms : Nat} {ret : Option FieldType} {ws : List Cond} {rm : Room} {own : String} {As : List Value} (S : CallFix p m c cc nL s args Ts own) (hM : vx_Met l y ws rm (xP lo D E h As) (xQ lo D post) (xXp lo D h pxc) mc ms (xA lo)) (cw : CallB R s args own index y bytes maxL ret ws rm mc ms na ∧ (Cond.static y).before args s = true) (I : XI lo D E h s H) (hS : va_S (xA lo) H0 H locs) (hn : As.length = na) (hsize : ls.size = nL) (hst : st0 = As.reverse ++ rest) (hW : (rest.map fun v => v.category).sum ≤ 8) (hdg : decode cc pc = .ok (.invokestatic index, 3)) (hf : cells + mc ≤ R.cells ∧ slots + ms ≤ R.slots)
    (kk : ∀ (v : Option Value) (h2 : XW) (H1 : Heap) (locs1 : List Loc), post v h2 → XI lo D E h2 s H1 → va_S (xA lo) H0 H1 locs1 → W p l e R s m args below meth c H1 locs1 (cells + mc) (slots + ms) Q (F0 m (pc + 3) ls (v.toList ++ rest)))
    (kx : ∀ (q : Addr) (En : String) (ce : Cell) (H1 : Heap) (locs1 : List Loc), pxc En → XI lo D E h s H1 → va_S (xA lo) H0 H1 locs1 → H1[q]? = some ce → ce.vm = .none → s.vm.findClass En = some ce.cls → vx_W p l e R s m args below meth c H1 locs1 (cells + mc) (slots + ms) Q (F0 m pc ls rest) q) : W p l e R s m args below meth c H locs cells slots Q (F0 m pc ls st0) :=
  xcC (vx_runS (As := As) (rest := rest) S hM cw ⟨xP_blind, fun U hU hW => ⟨rfl, by show XI lo D E h U U.heap; rw [hU]; exact XI.warm hW I⟩⟩ rfl hn hsize hst (lv_room hW) hdg hf) I hS kk kx
/-- reading the script by a static call -/
theorem xcsS {y : MethodName} {bytes : ByteArray} {maxL nL na index b L : Nat} {xs : Nat → Int32} {ret : Option FieldType} {ws : List Cond} {rm : Room} {own : String} {As : List Value} {v : Option Value} (S : CallFix p m c cc nL s args Ts own) (hM : Met l y ws rm (xPS b L xs As) (xR v) 0 0 (fun _ => False)) (cw : CallB R s args own index y bytes maxL ret ws rm 0 0 na ∧ (Cond.static y).before args s = true) (hX : va_X b L xs s s.heap) (hbl : b < s.heap.size) (hbA : ¬ xA lo b) (hS : va_S (xA lo) s.heap H locs) (hn : As.length = na) (hsize : ls.size = nL) (hst : st0 = As.reverse ++ rest) (hW : (rest.map fun v => v.category).sum ≤ 8) (hdg : decode cc pc = .ok (.invokestatic index, 3)) (hf : cells + 0 ≤ R.cells ∧ slots + 0 ≤ R.slots)
    (kk : W p l e R s m args below meth c H locs cells slots Q (F0 m (pc + 3) ls (v.toList ++ rest))) : W p l e R s m args below meth c H locs cells slots Q (F0 m pc ls st0) :=
  xcR (W.runS (As := As) (rest := rest) S hM cw ⟨xPS_blind, fun U hU hW => ⟨rfl, by
    show va_X b L xs U U.heap ∧ b < U.heap.size
    rw [hU]
    exact ⟨va_X.moved hW.alike (hX.kept (hS.2.1 b hbl hbA)), Nat.lt_of_lt_of_le hbl hS.1⟩⟩⟩ rfl hn hsize hst (lv_room hW) hdg hf) kk
end XLR
