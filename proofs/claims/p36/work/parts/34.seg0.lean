/-! the law's body: what holds all along, where a segment goes on -/
def LF (p : Program) (l : Launch) (s : State) (m : MethodId) (c : Code) (b L : Nat) (xs : Nat → Int32) : Prop :=
  p.tables.exec = Jvm.exec ∧ c.code = cL_law ∧ c.maxLocals = 39 ∧ s.vm.findClass RL = some m.cls ∧ (∀ w ∈ wsL_law, w.before #[Value.ref b] s = true) ∧ va_X b L xs s s.heap ∧ b < s.heap.size ∧ XCb s ∧ l.stackTraces = false ∧ L ≤ 260
abbrev ST : Type := LT × CT × Int64 × Nat × Nat × Nat × Nat
def lLS (b : Nat) (ad : Nat → Nat → Nat) (ar : Nat → Nat) (st : ST) (a t : Nat) : List (Nat × Value) := [(0, .ref b), (1, .ref (ad 0 0)), (2, .ref (ar 0)), (3, .ref (ar 1)), (4, .ref (ar 2)), (5, .ref (ar 3)), (6, .ref (ar 4)), (7, .ref (ar 5)), (8, .ref (ar 6)), (9, .ref (ar 8)), (10, .ref (ar 7)), (11, .ref (ar 9)), (12, .long st.2.2.1), (14, .int (nI st.2.2.2.1)), (15, .int (nI st.2.2.2.2.1)), (16, .int (nI st.2.2.2.2.2.1)), (17, .int (nI st.2.2.2.2.2.2)), (18, .int (nI a)), (19, .int (nI t))]
def lKK (p : Program) (l : Launch) (e : Env) (s : State) (m : MethodId) (below : List Frame) (meth : Method) (c : Code) (b : Nat) (D : va_G) (E : Nat → ClassId) (ar : Nat → Nat) (Q : State → Prop) (K Ks a t P : Nat) (st : ST) : Prop :=
  ∀ (H : Heap) (locs : List Loc) (h : XW) (ad : Nat → Nat → Nat) (fa : Nat → Nat → Option Nat) (ls : Array Slot), XI s.heap.size D E h s H → RA E st.1 ar h → RC E (lPr ar) st.2.1 ad fa h → va_S (xA s.heap.size) s.heap H locs → LW st.1 → CW st.2.1 → lv_has ls 39 (lLS b ad ar st a t) → W p l e room_1 s m #[Value.ref b] below meth c H locs K Ks Q (F0 m P ls [])
theorem onat {x : Int32} {n : Nat} (hn : n < 2 ^ 31) (h : x = -1 ∨ ∃ j, j < n ∧ x = nI j) (h0 : ¬ x < 0) : x = nI (tn x) ∧ tn x < n := by
  rcases h with h | ⟨j, hj, h⟩
  · subst h; exact absurd (by decide) h0
  · subst h; rw [tn_nI (by omega)]; exact ⟨rfl, hj⟩
theorem i32_nlt {a b : Int32} : ¬ a < b ↔ b ≤ a := by rw [Int32.lt_iff_toInt_lt, Int32.le_iff_toInt_le]; omega
