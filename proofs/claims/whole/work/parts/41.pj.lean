theorem lN_i32 (n : Nat) : (lN n).toInt32 = nI n := by
  show (Int64.ofNat n).toInt32 = Int32.ofNat n
  first | exact Int64.toInt32_ofNat' | simp
theorem p_hun {a b : Nat} (ha : a ≤ 100000000) (hb : b ≤ 100) : ((nI a).toInt64 * (nI b).toInt64 / (100 : Int64)).toInt32 = nI (a * b / 100) ∧ a * b / 100 ≤ 100000000 := by
  have h2 := Nat.mul_le_mul ha hb
  rw [nI_l (by omega), nI_l (by omega), lN_mul]
  have e : lN (a * b) / (100 : Int64) = lN (a * b / 100) := pk_lDiv (b := 100) (by omega) (by decide) (by decide)
  rw [e, lN_i32]
  exact ⟨rfl, by omega⟩
theorem cCnt_congr {f g : Nat → Nat} (e : Nat) : ∀ n, (∀ k, k < n → f k = g k) → cCnt f e n = cCnt g e n := by
  intro n
  induction n with
  | zero => intro _; rfl
  | succ n ih => intro h; simp only [cCnt]; rw [ih (fun k hk => h k (by omega)), h n (by omega)]
theorem cCnt_0 {f : Nat → Nat} (e : Nat) : ∀ n, (∀ k, k < n → f k ≠ e) → cCnt f e n = 0 := by
  intro n
  induction n with
  | zero => intro _; rfl
  | succ n ih => intro h; simp only [cCnt]; rw [ih (fun k hk => h k (by omega)), if_neg (h n (by omega))]
theorem cCnt_le (f : Nat → Nat) (e : Nat) : ∀ n, cCnt f e n ≤ n := by
  intro n
  induction n with
  | zero => exact Nat.le_refl _
  | succ n ih => simp only [cCnt]; split <;> omega
theorem cCnt_new (f : Nat → Nat) (e e1 n : Nat) : cCnt (fun k => if k = n then e1 else f k) e (n + 1) = cCnt f e n + if e1 = e then 1 else 0 := by
  show cCnt (fun k => if k = n then e1 else f k) e n + (if (if n = n then e1 else f n) = e then 1 else 0) = _
  rw [if_pos (show n = n from rfl), cCnt_congr (f := fun k => if k = n then e1 else f k) (g := f) e n (fun k hk => if_neg (by omega))]
def RelN1 (σ : MT) (τ : CT) : Prop := mN σ 1 = cN τ 5 ∧ mN σ 2 = cN τ 0 ∧ mN σ 8 = cN τ 1 ∧ mN σ 11 = cN τ 2 ∧ mN σ 20 = cN τ 3 ∧ mN σ 30 = cN τ 4 ∧ mL σ 35 0 = cL τ 0 0 ∧ mN σ 34 ≤ 20 ∧ cN τ 4 ≤ cN τ 3 + 1 ∧ mN σ 34 * 100 ≤ cN τ 5
def RelV1 (σ : MT) (τ : CT) (e1 : Nat) : Prop := ∀ e, e < cN τ 4 → (e ≠ e1 → mK σ 31 e = cK τ 16 e) ∧ cI τ 29 e = nI e ∧ cI τ 30 e = nI (cCnt (cK τ 13) e (cN τ 3))
def Rel1 (σ : MT) (τ : CT) (e1 : Nat) : Prop := RelN1 σ τ ∧ RelB σ ∧ RelM σ τ ∧ RelP σ τ ∧ RelS σ τ ∧ RelE σ τ ∧ RelO σ τ ∧ RelC σ τ ∧ RelZ σ τ ∧ RelA σ τ ∧ RelV1 σ τ e1 ∧ RelW σ τ ∧ RelU σ τ ∧ RelY σ τ
theorem r_newV {σ : MT} {τ : CT} (hR : Rel σ τ) (hW : CW τ) (d : Nat) : Rel1 (mSK σ 30 0 (cN τ 4 + 1)) (cNewV τ d) (cN τ 4) := by
  obtain ⟨hN, hB, hM, hP, hS, hE, hO, hC, hZ, hA, hV, hw, hU, hY⟩ := hR
  obtain ⟨n1, n2, n3, n4, n5, n6, n7, n8, n9, n10⟩ := hN
  refine ⟨⟨n1, n2, n3, n4, n5, rfl, n7, n8, (by show cN τ 4 + 1 ≤ cN τ 3 + 1; omega), n10⟩, hB, hM, hP, hS, hE, hO, ?_, hZ, hA, ?_, hw, hU, hY⟩
  · intro c hc
    obtain ⟨c1, c2, c3, c4, c5⟩ := hC c hc
    have g : cK τ 13 c < cN τ 4 := hW.2.2.2.2.1 c hc
    refine ⟨c1, c2, c3, ?_, c5⟩
    show mK σ 23 c = if (16 : Nat) = 16 ∧ cK τ 13 c = cN τ 4 then d else cK τ 16 (cK τ 13 c)
    rw [if_neg (fun z => by omega)]; exact c4
  · intro e he
    have h7 : e < cN τ 4 + 1 := he
    show (e ≠ cN τ 4 → mK σ 31 e = if (16 : Nat) = 16 ∧ e = cN τ 4 then d else cK τ 16 e) ∧ (if (29 : Nat) = 29 ∧ e = cN τ 4 then nI (cN τ 4) else cI τ 29 e) = nI e ∧ (if (30 : Nat) = 30 ∧ e = cN τ 4 then 0 else cI τ 30 e) = nI (cCnt (cK τ 13) e (cN τ 3))
    by_cases h8 : e = cN τ 4
    · rw [if_pos ⟨rfl, h8⟩, if_pos ⟨rfl, h8⟩, if_pos ⟨rfl, h8⟩]
      refine ⟨fun z => absurd h8 z, by rw [h8], ?_⟩
      rw [cCnt_0 e (cN τ 3) (fun k hk => by have := hW.2.2.2.2.1 k hk; omega)]; rfl
    · rw [if_neg (fun z => h8 z.2), if_neg (fun z => h8 z.2), if_neg (fun z => h8 z.2)]
      obtain ⟨v1, v2, v3⟩ := hV e (by omega)
      exact ⟨fun _ => v1, v2, v3⟩
theorem Rel.one {σ : MT} {τ : CT} (hR : Rel σ τ) (e : Nat) : Rel1 σ τ e := by
  obtain ⟨hN, hB, hM, hP, hS, hE, hO, hC, hZ, hA, hV, hw, hU, hY⟩ := hR
  obtain ⟨n1, n2, n3, n4, n5, n6, n7, n8, n9, n10⟩ := hN
  exact ⟨⟨n1, n2, n3, n4, n5, n6, n7, n8, by omega, n10⟩, hB, hM, hP, hS, hE, hO, hC, hZ, hA, fun e2 h2 => ⟨fun _ => (hV e2 h2).1, (hV e2 h2).2⟩, hw, hU, hY⟩
theorem Rel1.same {σ : MT} {τ : CT} {e : Nat} (hR : Rel1 σ τ e) (v : Nat) (hv : v = mN σ 30) : Rel1 (mSK σ 30 0 v) τ e := by
  obtain ⟨hN, hB, hM, hP, hS, hE, hO, hC, hZ, hA, hV, hw, hU, hY⟩ := hR
  obtain ⟨n1, n2, n3, n4, n5, n6, n7, n8, n9, n10⟩ := hN
  exact ⟨⟨n1, n2, n3, n4, n5, hv.trans n6, n7, n8, n9, n10⟩, hB, hM, hP, hS, hE, hO, hC, hZ, hA, hV, hw, hU, hY⟩
theorem r_add {σ : MT} {τ : CT} {e : Nat} (hR : Rel1 σ τ e) (hW : CW τ) (h60 : cN τ 3 < 60) {s k d q : Nat} (hs : s < cN τ 1) (hk : k < 4) (he : e < cN τ 4) (hd : d = cK τ 16 e) (ho : mN σ 34 ≤ d / 100) (hq : q ≤ 100000000) (th : Int32) :
    Rel (fX8_adds σ th s k d (nI q) e).2.1 (fX7_newClaim τ s k (nI q) e).2 ∧ (fX8_adds σ th s k d (nI q) e).1 = nI (cN τ 3) ∧ (fX7_newClaim τ s k (nI q) e).1 = nI (cN τ 3) ∧ (fX8_adds σ th s k d (nI q) e).2.2 = th := by
  obtain ⟨hN, hB, hM, hP, hS, hE, hO, hC, hZ, hA, hV, hw, hU, hY⟩ := hR
  obtain ⟨n1, n2, n3, n4, n5, n6, n7, n8, n9, n10⟩ := hN
  have w := hW.1
  unfold fX8_adds fX7_newClaim
  rw [n5]
  refine ⟨⟨⟨n1, n2, n3, n4, rfl, n6, n7, n8, n9, n10⟩, hB, hM, hP, hS, hE, hO, ?_, ?_, hA, ?_, ?_, hU, hY⟩, ?_, ?_, rfl⟩
  · intro c hc
    have h7 : c < cN τ 3 + 1 := hc
    show (if (21 : Nat) = 21 ∧ c = cN τ 3 then s else mK σ 21 c) = (if (12 : Nat) = 12 ∧ c = cN τ 3 then s else cK τ 12 c) ∧ (if (22 : Nat) = 22 ∧ c = cN τ 3 then k else mK σ 22 c) = (if (15 : Nat) = 15 ∧ c = cN τ 3 then k else cK τ 15 c) ∧ (if (25 : Nat) = 25 ∧ c = cN τ 3 then e else mK σ 25 c) = (if (13 : Nat) = 13 ∧ c = cN τ 3 then e else cK τ 13 c) ∧ (if (23 : Nat) = 23 ∧ c = cN τ 3 then d else mK σ 23 c) = cK τ 16 (if (13 : Nat) = 13 ∧ c = cN τ 3 then e else cK τ 13 c) ∧ (if (24 : Nat) = 24 ∧ c = cN τ 3 then nI q else mI σ 24 c) = (if (24 : Nat) = 24 ∧ c = cN τ 3 then nI q else cI τ 24 c) ∧ mI σ 29 c = (if ((25 : Nat) = 25 ∨ (25 : Nat) = 26 ∨ (25 : Nat) = 27 ∨ (25 : Nat) = 28) ∧ c = cN τ 3 then 0 else cI τ 25 c) ∧ mI σ 26 c = (if ((26 : Nat) = 25 ∨ (26 : Nat) = 26 ∨ (26 : Nat) = 27 ∨ (26 : Nat) = 28) ∧ c = cN τ 3 then 0 else cI τ 26 c) ∧ mI σ 27 c = (if ((27 : Nat) = 25 ∨ (27 : Nat) = 26 ∨ (27 : Nat) = 27 ∨ (27 : Nat) = 28) ∧ c = cN τ 3 then 0 else cI τ 27 c) ∧ (∃ q1, q1 ≤ 100000000 ∧ (if (24 : Nat) = 24 ∧ c = cN τ 3 then nI q else cI τ 24 c) = nI q1) ∧ ∃ q1, q1 ≤ 100000000 ∧ (if ((25 : Nat) = 25 ∨ (25 : Nat) = 26 ∨ (25 : Nat) = 27 ∨ (25 : Nat) = 28) ∧ c = cN τ 3 then 0 else cI τ 25 c) = nI q1
    by_cases h8 : c = cN τ 3
    · obtain ⟨z1, z2, z3⟩ := hZ c (by omega) (by omega)
      rw [if_pos ⟨rfl, h8⟩, if_pos ⟨rfl, h8⟩, if_pos ⟨rfl, h8⟩, if_pos ⟨rfl, h8⟩, if_pos ⟨rfl, h8⟩, if_pos ⟨rfl, h8⟩, if_pos ⟨rfl, h8⟩, if_pos ⟨rfl, h8⟩, if_pos ⟨rfl, h8⟩, if_pos ⟨by decide, h8⟩, if_pos ⟨by decide, h8⟩, if_pos ⟨by decide, h8⟩]
      exact ⟨rfl, rfl, rfl, hd, rfl, z3, z1, z2, ⟨q, hq, rfl⟩, 0, by omega, rfl⟩
    · rw [if_neg (fun z => h8 z.2), if_neg (fun z => h8 z.2), if_neg (fun z => h8 z.2), if_neg (fun z => h8 z.2), if_neg (fun z => h8 z.2), if_neg (fun z => h8 z.2), if_neg (fun z => h8 z.2), if_neg (fun z => h8 z.2), if_neg (fun z => h8 z.2), if_neg (fun z => h8 z.2), if_neg (fun z => h8 z.2), if_neg (fun z => h8 z.2)]
      exact hC c (by omega)
  · intro c h9 h6
    have h7 : cN τ 3 + 1 ≤ c := h9
    exact hZ c (by omega) h6
  · intro e2 he2
    have h7 : e2 < cN τ 4 := he2
    obtain ⟨v1, v2, v3⟩ := hV e2 h7
    show (if (31 : Nat) = 31 ∧ e2 = e then d else mK σ 31 e2) = cK τ 16 e2 ∧ cI τ 29 e2 = nI e2 ∧ (if (30 : Nat) = 30 ∧ e2 = e then cI τ 30 e + nI 1 else cI τ 30 e2) = nI (cCnt (fun b => if (13 : Nat) = 13 ∧ b = cN τ 3 then e else cK τ 13 b) e2 (cN τ 3 + 1))
    have e3 : (fun b => if (13 : Nat) = 13 ∧ b = cN τ 3 then e else cK τ 13 b) = (fun b => if b = cN τ 3 then e else cK τ 13 b) := by
      funext b
      by_cases h : b = cN τ 3
      · rw [if_pos ⟨rfl, h⟩, if_pos h]
      · rw [if_neg (fun z => h z.2), if_neg h]
    rw [e3, cCnt_new]
    by_cases h8 : e2 = e
    · rw [if_pos ⟨rfl, h8⟩, if_pos ⟨rfl, h8⟩, if_pos h8.symm, ← h8, v3, h8]
      exact ⟨hd, by rw [← h8]; exact v2, nI_add _ 1⟩
    · rw [if_neg (fun z => h8 z.2), if_neg (fun z => h8 z.2), if_neg (fun z => h8 z.symm)]
      exact ⟨v1 h8, v2, v3⟩
  · intro c hc
    have h7 : c < cN τ 3 + 1 := hc
    show (if (23 : Nat) = 23 ∧ c = cN τ 3 then d else mK σ 23 c) / 100 < mN σ 34 → mI σ 28 c = (if ((28 : Nat) = 25 ∨ (28 : Nat) = 26 ∨ (28 : Nat) = 27 ∨ (28 : Nat) = 28) ∧ c = cN τ 3 then 0 else cI τ 28 c) ∧ ∀ c1, c1 < cN τ 3 + 1 → (if (21 : Nat) = 21 ∧ c1 = cN τ 3 then s else mK σ 21 c1) = (if (21 : Nat) = 21 ∧ c = cN τ 3 then s else mK σ 21 c) → (if (25 : Nat) = 25 ∧ c1 = cN τ 3 then e else mK σ 25 c1) = (if (25 : Nat) = 25 ∧ c = cN τ 3 then e else mK σ 25 c) → mI σ 28 c1 = mI σ 28 c
    by_cases h8 : c = cN τ 3
    · rw [if_pos (show (23 : Nat) = 23 ∧ c = cN τ 3 from ⟨rfl, h8⟩)]; intro z; omega
    · have h6 : c < cN τ 3 := by omega
      rw [if_neg (fun z => h8 z.2), if_neg (fun z => h8 z.2), if_neg (fun z => h8 z.2), if_neg (fun z => h8 z.2)]
      intro hcl
      obtain ⟨w1, w2⟩ := hw c h6 hcl
      refine ⟨w1, fun c1 hc1 => ?_⟩
      by_cases h9 : c1 = cN τ 3
      · rw [if_pos (show (25 : Nat) = 25 ∧ c1 = cN τ 3 from ⟨rfl, h9⟩)]
        intro _ g
        obtain ⟨-, -, c3, c4, -⟩ := hC c h6
        rw [c4, ← c3, ← g, ← hd] at hcl
        omega
      · rw [if_neg (fun z => h9 z.2), if_neg (fun z => h9 z.2)]
        exact w2 c1 (by omega)
  · exact pk_sub (a := cN τ 3 + 1) (by omega)
  · exact pk_sub (a := cN τ 3 + 1) (by omega)
theorem p_room {τ : CT} (hW : CW τ) {v : Nat} (hv : v ≤ 2) : (cN τ 3 + v ≤ 60 ∧ fX7_checkRoomForClaims τ (nI v) = .inr ()) ∨ (60 < cN τ 3 + v ∧ fX7_checkRoomForClaims τ (nI v) = .inl ISE) := by
  have w := hW.1
  unfold fX7_checkRoomForClaims
  rw [nI_add]
  by_cases h : cN τ 3 + v ≤ 60
  · exact Or.inl ⟨h, if_pos (nI_le h (by omega))⟩
  · exact Or.inr ⟨by omega, if_neg (by rw [nI_leI (by omega) (by omega)]; exact h)⟩
theorem q_claim {σ : MT} {τ : CT} (hR : Rel σ τ) (hW : CW τ) (th : Int32) (a1 a2 a3 a4 a5 : Int32) : xEq (wIs (fX7_claim τ a1 a2 a3 a4 a5)) ["java/lang/IndexOutOfBoundsException", "java/lang/IllegalArgumentException", "java/lang/IllegalStateException"] τ (some (fX8_claim σ th a1 a2 a3 a4 a5).1.toInt64) (fX8_claim σ th a1 a2 a3 a4 a5).2.1 (fX8_claim σ th a1 a2 a3 a4 a5).2.2 := by
  have w := hW.1
  obtain ⟨hN, hB, hM, hP, hS, hE, hO, hC, hZ, hA, hV, hw, hU, hY⟩ := id hR
  have hN34 := hN.2.2.2.2.2.2.2.1
  unfold fX7_claim fX8_claim
  rcases p_ship hR.1 hW a1 with ⟨m1a, m1b⟩ | ⟨q1, h1, e1, t1, m1a, m1b⟩
  · simp only [m1a, m1b, if_pos n00, ite_self, xb_l]; exact xEq.thr hR rfl (Or.inl ⟨rfl, rfl⟩)
  simp only [m1a, m1b, if_neg n10, xb_r, t1]
  have n9 : cN τ 4 ≤ cN τ 3 := hN.2.2.2.2.2.2.2.2.1
  rw [hN.1, hN.2.2.2.2.1, hN.2.2.2.2.2.1]
  have hN0 := hN
  by_cases g5 : a5 = -1
  · simp only [if_pos g5]
    rcases p_kind a2 with ⟨m2a, m2b⟩ | ⟨q2, h2, e2, t2, m2a, m2b⟩
    · simp only [m2a, m2b, if_pos n00, ite_self, xb_l]; exact xEq.thr hR rfl (Or.inr (Or.inl ⟨rfl, rfl⟩))
    simp only [m2a, m2b, if_neg n10, xb_r, t2]
    rcases p_in (x := a3) (a := 0) (b := (cN τ 5)) (by first | decide | omega) (by first | decide | omega) with ⟨m3a, m3b⟩ | ⟨q3, g3, h3, e3, m3a, m3b⟩
    · simp only [m3a, m3b, if_pos n00, ite_self, xb_l]; exact xEq.thr hR rfl (Or.inr (Or.inl ⟨rfl, rfl⟩))
    have t3 : tn a3 = q3 := by rw [e3]; exact tn_nI (by omega)
    simp only [m3a, m3b, if_neg n10, xb_r, t3]
    rcases p_loss a4 with ⟨m4a, m4b⟩ | ⟨q4, h4, e4, t4, m4a, m4b⟩
    · simp only [m4a, m4b, if_pos n00, ite_self, xb_l]; exact xEq.thr hR rfl (Or.inr (Or.inl ⟨rfl, rfl⟩))
    simp only [m4a, m4b, if_neg n10, xb_r, t4]
    rcases p_open hY hN34 (y := q3 / 100) (by omega) with ⟨o1, o2, o3, o4⟩ | ⟨o1, o2, o3, o4⟩
    · simp only [o4, xb_r, if_neg o3]
      rcases p_room hW (v := 1) (by omega) with ⟨r1, r2⟩ | ⟨r1, r2⟩
      · simp only [r2, xb_r, if_neg (show ¬ nI (cN τ 3) = nI 60 by rw [nI_eq (by omega) (by omega)]; omega)]
        obtain ⟨x1, x2, x3, x4⟩ := r_add (r_newV hR hW q3) (hW.newV q3 (by omega) (by omega)) (show cN τ 3 < 60 by omega) (e := cN τ 4) (d := q3) h1 h2 (Nat.lt_succ_self _) (if_pos ⟨rfl, rfl⟩ : (if (16 : Nat) = 16 ∧ cN τ 4 = cN τ 4 then q3 else cK τ 16 (cN τ 4)) = q3).symm o1 h4 (nI 0)
        rw [Nat.add_sub_cancel, x2]
        exact xEq.ret (by show (Sum.inr (some (fX7_newClaim (cNewV τ q3) q1 q2 (nI q4) (cN τ 4)).1.toInt64, (fX7_newClaim (cNewV τ q3) q1 q2 (nI q4) (cN τ 4)).2) : wR) = _; rw [x3]) x4 x1
      · simp only [r2, xb_l, if_pos (show nI (cN τ 3) = nI 60 from congrArg nI (by omega))]; exact xEq.thr hR rfl (Or.inr (Or.inr ⟨rfl, rfl⟩))
    · simp only [o4, xb_l, if_pos o3]; exact xEq.thr hR rfl (Or.inr (Or.inr ⟨rfl, rfl⟩))
  · simp only [if_neg g5]
    rcases p_event hN hW a5 with ⟨m5a, m5b⟩ | ⟨q5, h5, e5, t5, m5a, m5b⟩
    · rw [hN.2.2.2.2.2.1] at m5a
      simp only [m5a, m5b, if_pos n00, ite_self, xb_l]; exact xEq.thr hR rfl (Or.inl ⟨rfl, rfl⟩)
    rw [hN.2.2.2.2.2.1] at m5a
    simp only [m5a, m5b, if_neg n10, xb_r, t5]
    rcases p_kind a2 with ⟨m2a, m2b⟩ | ⟨q2, h2, e2, t2, m2a, m2b⟩
    · simp only [m2a, m2b, if_pos n00, ite_self, xb_l]; exact xEq.thr hR rfl (Or.inr (Or.inl ⟨rfl, rfl⟩))
    simp only [m2a, m2b, if_neg n10, xb_r, t2]
    rcases p_in (x := a3) (a := 0) (b := (cN τ 5)) (by first | decide | omega) (by first | decide | omega) with ⟨m3a, m3b⟩ | ⟨q3, g3, h3, e3, m3a, m3b⟩
    · simp only [m3a, m3b, if_pos n00, ite_self, xb_l]; exact xEq.thr hR rfl (Or.inr (Or.inl ⟨rfl, rfl⟩))
    have t3 : tn a3 = q3 := by rw [e3]; exact tn_nI (by omega)
    simp only [m3a, m3b, if_neg n10, xb_r, t3]
    rcases p_loss a4 with ⟨m4a, m4b⟩ | ⟨q4, h4, e4, t4, m4a, m4b⟩
    · simp only [m4a, m4b, if_pos n00, ite_self, xb_l]; exact xEq.thr hR rfl (Or.inr (Or.inl ⟨rfl, rfl⟩))
    simp only [m4a, m4b, if_neg n10, xb_r, t4]
    simp only [if_neg (nI_m1 (n := q5) (by omega))]
    rw [(hV q5 h5).1]
    have h16 := hW.2.2.2.2.2.2.2.1 q5 h5
    by_cases g6 : cK τ 16 q5 = q3
    · simp only [if_pos (congrArg nI g6)]
      rcases p_open hY hN34 (y := q3 / 100) (by omega) with ⟨o1, o2, o3, o4⟩ | ⟨o1, o2, o3, o4⟩
      · simp only [o4, xb_r, if_neg o3]
        rcases p_room hW (v := 1) (by omega) with ⟨r1, r2⟩ | ⟨r1, r2⟩
        · simp only [r2, xb_r, if_neg (show ¬ nI (cN τ 3) = nI 60 by rw [nI_eq (by omega) (by omega)]; omega)]
          obtain ⟨x1, x2, x3, x4⟩ := r_add ((hR.one q5).same (cN τ 4 + 0) (by rw [hN.2.2.2.2.2.1, Nat.add_zero])) hW (show cN τ 3 < 60 by omega) (e := q5) (d := q3) h1 h2 h5 g6.symm o1 h4 (nI 0)
          rw [x2]
          exact xEq.ret (by show (Sum.inr (some (fX7_newClaim τ q1 q2 (nI q4) q5).1.toInt64, (fX7_newClaim τ q1 q2 (nI q4) q5).2) : wR) = _; rw [x3]) x4 x1
        · simp only [r2, xb_l, if_pos (show nI (cN τ 3) = nI 60 from congrArg nI (by omega))]; exact xEq.thr hR rfl (Or.inr (Or.inr ⟨rfl, rfl⟩))
      · simp only [o4, xb_l, if_pos o3]; exact xEq.thr hR rfl (Or.inr (Or.inr ⟨rfl, rfl⟩))
    · simp only [if_neg (show ¬ nI (cK τ 16 q5) = nI q3 by rw [nI_eq (by omega) (by omega)]; exact g6)]; exact xEq.thr hR rfl (Or.inr (Or.inl ⟨rfl, rfl⟩))
theorem q_collide {σ : MT} {τ : CT} (hR : Rel σ τ) (hW : CW τ) (th : Int32) (a1 a2 a3 a4 a5 : Int32) : xEq (wIs (fX7_collide τ a1 a2 a3 a4 a5)) ["java/lang/IndexOutOfBoundsException", "java/lang/IllegalArgumentException", "java/lang/IllegalStateException"] τ (some (fX8_collide σ th a1 a2 a3 a4 a5).1.toInt64) (fX8_collide σ th a1 a2 a3 a4 a5).2.1 (fX8_collide σ th a1 a2 a3 a4 a5).2.2 := by
  have w := hW.1
  obtain ⟨hN, hB, hM, hP, hS, hE, hO, hC, hZ, hA, hV, hw, hU, hY⟩ := id hR
  have hN34 := hN.2.2.2.2.2.2.2.1
  unfold fX7_collide fX8_collide
  rcases p_ship hR.1 hW a1 with ⟨m1a, m1b⟩ | ⟨q1, h1, e1, t1, m1a, m1b⟩
  · simp only [m1a, m1b, if_pos n00, ite_self, xb_l]; exact xEq.thr hR rfl (Or.inl ⟨rfl, rfl⟩)
  simp only [m1a, m1b, if_neg n10, xb_r, t1]
  rcases p_ship hR.1 hW a2 with ⟨m2a, m2b⟩ | ⟨q2, h2, e2, t2, m2a, m2b⟩
  · simp only [m2a, m2b, if_pos n00, ite_self, xb_l]; exact xEq.thr hR rfl (Or.inl ⟨rfl, rfl⟩)
  simp only [m2a, m2b, if_neg n10, xb_r, t2]
  by_cases g3 : nI q1 = nI q2
  · simp only [if_pos g3]; exact xEq.thr hR rfl (Or.inr (Or.inl ⟨rfl, rfl⟩))
  simp only [if_neg g3]
  rcases p_in (x := a3) (a := 0) (b := 100) (by first | decide | omega) (by first | decide | omega) with ⟨m3a, m3b⟩ | ⟨q3, g3, h3, e3, m3a, m3b⟩
  · simp only [m3a, m3b, if_pos n00, ite_self, xb_l]; exact xEq.thr hR rfl (Or.inr (Or.inl ⟨rfl, rfl⟩))
  have t3 : tn a3 = q3 := by rw [e3]; exact tn_nI (by omega)
  simp only [m3a, m3b, if_neg n10, xb_r, t3]
  rcases p_loss a4 with ⟨m4a, m4b⟩ | ⟨q4, h4, e4, t4, m4a, m4b⟩
  · simp only [m4a, m4b, if_pos n00, ite_self, xb_l]; exact xEq.thr hR rfl (Or.inr (Or.inl ⟨rfl, rfl⟩))
  simp only [m4a, m4b, if_neg n10, xb_r, t4]
  rcases p_loss a5 with ⟨m5a, m5b⟩ | ⟨q5, h5, e5, t5, m5a, m5b⟩
  · simp only [m5a, m5b, if_pos n00, ite_self, xb_l]; exact xEq.thr hR rfl (Or.inr (Or.inl ⟨rfl, rfl⟩))
  simp only [m5a, m5b, if_neg n10, xb_r, t5]
  rw [hN.1, hN.2.2.2.2.1, hN.2.2.2.2.2.1]
  rcases p_room hW (v := 2) (by omega) with ⟨r1, r2⟩ | ⟨r1, r2⟩
  · simp only [r2, xb_r, if_pos (show nI (cN τ 3) ≤ nI 58 from nI_le (by omega) (by omega))]
    obtain ⟨ph1, ph2⟩ := p_hun h5 (show q3 ≤ 100 by omega)
    obtain ⟨ph3, ph4⟩ := p_hun h4 (show 100 - q3 ≤ 100 by omega)
    have hh1 : fX7_hundredthsOf (nI q5) (nI q3) = nI (q5 * q3 / 100) := ph1
    have hh2 : fX7_hundredthsOf (nI q4) (nI 100 - nI q3) = nI (q4 * (100 - q3) / 100) := by
      rw [show nI 100 - nI q3 = nI (100 - q3) from pk_sub (by omega)]; exact ph3
    rw [ph1, ph3, hh1, hh2, Nat.add_sub_cancel]
    have n10' := hN.2.2.2.2.2.2.2.2.2
    have n9 : cN τ 4 ≤ cN τ 3 := hN.2.2.2.2.2.2.2.2.1
    have ev : (fX7_newEvent τ (cN τ 5)).2 = cNewV τ (cN τ 5) := rfl
    have ev1 : (fX7_newEvent τ (cN τ 5)).1 = cN τ 4 := rfl
    rw [ev, ev1]
    have hW1 := hW.newV (cN τ 5) (by omega) (by omega)
    have hd : cN τ 5 = cK (cNewV τ (cN τ 5)) 16 (cN τ 4) := (if_pos ⟨rfl, rfl⟩ : (if (16 : Nat) = 16 ∧ cN τ 4 = cN τ 4 then cN τ 5 else cK τ 16 (cN τ 4)) = cN τ 5).symm
    obtain ⟨x1, x2, x3, x4⟩ := r_add (s := q1) (k := 2) (q := q5 * q3 / 100) (r_newV hR hW (cN τ 5)) hW1 (show cN τ 3 < 60 by omega) (e := cN τ 4) (d := cN τ 5) h1 (by omega) (Nat.lt_succ_self _) hd (show mN σ 34 ≤ cN τ 5 / 100 by omega) ph2 (nI 0)
    have hW2 : CW (fX7_newClaim (cNewV τ (cN τ 5)) q1 2 (nI (q5 * q3 / 100)) (cN τ 4)).2 := (hW1.newC q1 2 (nI (q5 * q3 / 100)) (cN τ 4) (show cN τ 3 < 60 by omega) h1 (by omega) (Nat.lt_succ_self _)).sI ⟨by decide, by decide, by decide, by decide, by decide⟩ _ _
    obtain ⟨y1, y2, y3, y4⟩ := r_add (s := q2) (k := 2) (q := q4 * (100 - q3) / 100) (x1.one (cN τ 4)) hW2 (show cN τ 3 + 1 < 60 by omega) (e := cN τ 4) (d := cN τ 5) h2 (by omega) (Nat.lt_succ_self _) hd (show mN σ 34 ≤ cN τ 5 / 100 by omega) ph4 (nI 0)
    have z1 : mN (fX8_adds (mSK σ 30 0 (cN τ 4 + 1)) (nI 0) q1 2 (cN τ 5) (nI (q5 * q3 / 100)) (cN τ 4)).2.1 1 = cN τ 5 := x1.1.1
    have z2 : mN (fX8_adds (mSK σ 30 0 (cN τ 4 + 1)) (nI 0) q1 2 (cN τ 5) (nI (q5 * q3 / 100)) (cN τ 4)).2.1 30 = cN τ 4 + 1 := x1.1.2.2.2.2.2.1
    rw [z1, z2, x4, Nat.add_sub_cancel, y2]
    have z3 : cN (fX7_newClaim (cNewV τ (cN τ 5)) q1 2 (nI (q5 * q3 / 100)) (cN τ 4)).2 3 = cN τ 3 + 1 := rfl
    rw [z3]
    refine xEq.ret ?_ y4 y1
    show (Sum.inr (some (fX7_newClaim (cNewV τ (cN τ 5)) q1 2 (nI (q5 * q3 / 100)) (cN τ 4)).1.toInt64, _) : wR) = _
    rw [x3, pk_sub (by omega)]
    rfl
  · simp only [r2, xb_l, if_neg (show ¬ nI (cN τ 3) ≤ nI 58 by rw [nI_leI (by omega) (by omega)]; omega)]; exact xEq.thr hR rfl (Or.inr (Or.inr ⟨rfl, rfl⟩))
