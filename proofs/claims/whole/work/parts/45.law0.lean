/-! the law: what it keeps, and its calls -/
theorem mIs_a : ∀ k n, (k, n) ∈ mIs ++ (mKs ++ (mLs ++ mZs)) → k < 37 ∧ isA8 k = true := by
  intro k n hk
  have h9 : ∀ q ∈ mIs ++ (mKs ++ (mLs ++ mZs)), q.1 < 37 ∧ isA8 q.1 = true := by decide +kernel
  exact h9 (k, n) hk
theorem isA8_in : ∀ k, k < 37 → isA8 k = true → ∃ n, (k, n) ∈ mIs ∨ (k, n) ∈ mKs ∨ (k, n) ∈ mLs ∨ (k, n) ∈ mZs := by
  intro k hk ha
  have h9 : ∀ k, k < 37 → isA8 k = true → ((mIs ++ (mKs ++ (mLs ++ mZs))).any (fun q => q.1 == k)) = true := by decide +kernel
  obtain ⟨q, hq, he⟩ := List.any_eq_true.mp (h9 k hk ha)
  have hk2 : q.1 = k := by simpa using he
  refine ⟨q.2, ?_⟩
  have hq2 : q = (k, q.2) := by rw [← hk2]
  rw [hq2] at hq
  rcases List.mem_append.mp hq with h | h
  · exact Or.inl h
  rcases List.mem_append.mp h with h | h
  · exact Or.inr (Or.inl h)
  rcases List.mem_append.mp h with h | h
  · exact Or.inr (Or.inr (Or.inl h))
  · exact Or.inr (Or.inr (Or.inr h))
def lPr (r ou : Nat) (ar : Nat → Nat) (q : Nat) : Prop := q = ou ∨ q = r ∨ ∃ k, k < 37 ∧ isA8 k = true ∧ q = ar k
theorem lPr_re (r ou : Nat) (ar : Nat → Nat) (B : Nat) : lPr r ou (arN ar B) = lPr r ou ar := by
  funext q
  refine propext ⟨fun h => ?_, fun h => ?_⟩
  · rcases h with h | h | ⟨k, h1, h2, h3⟩
    · exact Or.inl h
    · exact Or.inr (Or.inl h)
    · refine Or.inr (Or.inr ⟨k, h1, h2, ?_⟩)
      unfold arN at h3
      rw [if_pos h2] at h3
      exact h3
  · rcases h with h | h | ⟨k, h1, h2, h3⟩
    · exact Or.inl h
    · exact Or.inr (Or.inl h)
    · refine Or.inr (Or.inr ⟨k, h1, h2, ?_⟩)
      unfold arN
      rw [if_pos h2]
      exact h3
theorem RM.keep {E : Nat → ClassId} {σ : MT} {th : Int32} {r : Nat} {ar : Nat → Nat} {h h1 : XW} (hR : RM E σ th r ar h) (hr : h1 r = h r) (ha : ∀ k, k < 37 → isA8 k = true → h1 (ar k) = h (ar k)) : RM E σ th r ar h1 := by
  obtain ⟨r0, r1, r2, r3, r4, r5⟩ := hR
  refine ⟨hr.trans r0, fun k n hk => ?_, fun k n hk => ?_, fun k n hk => ?_, fun k n hk => ?_, r5⟩
  · obtain ⟨g1, g2⟩ := mIs_a k n (List.mem_append_left _ hk); exact (ha k g1 g2).trans (r1 k n hk)
  · obtain ⟨g1, g2⟩ := mIs_a k n (List.mem_append_right _ (List.mem_append_left _ hk)); exact (ha k g1 g2).trans (r2 k n hk)
  · obtain ⟨g1, g2⟩ := mIs_a k n (List.mem_append_right _ (List.mem_append_right _ (List.mem_append_left _ hk))); exact (ha k g1 g2).trans (r3 k n hk)
  · obtain ⟨g1, g2⟩ := mIs_a k n (List.mem_append_right _ (List.mem_append_right _ (List.mem_append_right _ hk))); exact (ha k g1 g2).trans (r4 k n hk)
theorem RM.some {E : Nat → ClassId} {σ : MT} {th : Int32} {r : Nat} {ar : Nat → Nat} {h : XW} (hR : RM E σ th r ar h) {k : Nat} (hk : k < 37) (ha : isA8 k = true) : h (ar k) ≠ none := by
  obtain ⟨r0, r1, r2, r3, r4, r5⟩ := hR
  obtain ⟨n, g | g | g | g⟩ := isA8_in k hk ha
  · rw [r1 k n g]; exact fun z => by cases z
  · rw [r2 k n g]; exact fun z => by cases z
  · rw [r3 k n g]; exact fun z => by cases z
  · rw [r4 k n g]; exact fun z => by cases z
theorem RC.prs {E : Nat → ClassId} {Pr : Nat → Prop} {τ : CT} {ad : Nat → Nat → Nat} {fa : Nat → Nat → Option Nat} {h h1 : XW} (hR : RC E Pr τ ad fa h) (hk : ∀ q, ¬ Pr q → h q ≠ none → h1 q = h q) (hP : ∀ q, Pr q → h1 q ≠ none) : RC E Pr τ ad fa h1 := by
  refine ⟨fun K i hl => ?_, hR.2.1, hR.2.2.1, hP, hR.2.2.2.2⟩
  have e := hR.1 K i hl
  rw [hk _ (hR.2.2.1 K i hl) (by rw [e]; exact fun z => by cases z)]
  exact e
/-- the law's picture: the class's state and the reference's, side by side -/
def LI (E : Nat → ClassId) (X r ou : Nat) (h : XW) : Prop :=
  ∃ (σ : MT) (τ : CT) (th : Int32) (ad : Nat → Nat → Nat) (fa : Nat → Nat → Option Nat) (ar : Nat → Nat) (fo : Nat → Int64), RC E (lPr r ou ar) τ ad fa h ∧ ad 0 0 = X ∧ RM E σ th r ar h ∧ (ou ≠ r ∧ ∀ k, k < 37 → isA8 k = true → ou ≠ ar k) ∧ h ou = some (.inl (E 1, 1, .inr (.inl fo))) ∧ Rel σ τ ∧ CW τ
def LF (p : Program) (l : Launch) (s : State) (m : MethodId) (c : Code) (b L : Nat) (xs : Nat → Int32) : Prop :=
  p.tables.exec = Jvm.exec ∧ c.code = cL_law ∧ c.maxLocals = 8 ∧ s.vm.findClass RL = some m.cls ∧ (∀ w ∈ wsL_law, w.before #[Value.ref b] s = true) ∧ va_X b L xs s s.heap ∧ b < s.heap.size ∧ XCa s ∧ l.stackTraces = false
theorem wcode_fun {xs : List String} {En : String} {k1 k2 : Int32} (hn : xs.Nodup) (h1 : wcode xs En k1) (h2 : wcode xs En k2) : k1 = k2 := by
  match xs, hn, h1, h2 with
  | [], _, h1, _ => exact absurd h1 (by intro z; exact z)
  | [X1], _, h1, h2 => exact h1.2.trans h2.2.symm
  | [X1, X2], hn, h1, h2 =>
    have h12 : X1 ≠ X2 := by intro z; rw [z] at hn; simp at hn
    rcases h1 with ⟨a, b⟩ | ⟨a, b⟩ <;> rcases h2 with ⟨a2, b2⟩ | ⟨a2, b2⟩
    · exact b.trans b2.symm
    · exact absurd (a.symm.trans a2) h12
    · exact absurd (a2.symm.trans a) h12
    · exact b.trans b2.symm
  | [X1, X2, X3], hn, h1, h2 =>
    have h12 : X1 ≠ X2 := by intro z; rw [z] at hn; simp at hn
    have h13 : X1 ≠ X3 := by intro z; rw [z] at hn; simp at hn
    have h23 : X2 ≠ X3 := by intro z; rw [z] at hn; simp at hn
    rcases h1 with ⟨a, b⟩ | ⟨a, b⟩ | ⟨a, b⟩ <;> rcases h2 with ⟨a2, b2⟩ | ⟨a2, b2⟩ | ⟨a2, b2⟩
    · exact b.trans b2.symm
    · exact absurd (a.symm.trans a2) h12
    · exact absurd (a.symm.trans a2) h13
    · exact absurd (a2.symm.trans a) h12
    · exact b.trans b2.symm
    · exact absurd (a.symm.trans a2) h23
    · exact absurd (a2.symm.trans a) h13
    · exact absurd (a2.symm.trans a) h23
    · exact b.trans b2.symm
  | _ :: _ :: _ :: _ :: _, _, h1, _ => exact absurd h1 (by intro z; exact z)
theorem wcode_ne {xs : List String} {En : String} {k : Int32} (h1 : wcode xs En k) : k ≠ nI 0 := by
  match xs, h1 with
  | [], h1 => exact absurd h1 (by intro z; exact z)
  | [X1], h1 => rw [h1.2]; decide
  | [X1, X2], h1 => rcases h1 with ⟨a, b⟩ | ⟨a, b⟩ <;> rw [b] <;> decide
  | [X1, X2, X3], h1 => rcases h1 with ⟨a, b⟩ | ⟨a, b⟩ | ⟨a, b⟩ <;> rw [b] <;> decide
  | _ :: _ :: _ :: _ :: _, h1 => exact absurd h1 (by intro z; exact z)
theorem hE1 {G : wR} {X1 : String} {τ : CT} {r0 : Option Int64} {σ1 : MT} {th : Int32} (q : xEq G [X1] τ r0 σ1 th) : ∀ En, G = .inl En → En = X1 := by
  intro En hG
  rcases q with ⟨En2, e, hc, -⟩ | ⟨τ1, e, -⟩
  · rw [hG] at e; cases e; exact hc.1
  · rw [hG] at e; cases e
theorem hE2 {G : wR} {X1 X2 : String} {τ : CT} {r0 : Option Int64} {σ1 : MT} {th : Int32} (q : xEq G [X1, X2] τ r0 σ1 th) : ∀ En, G = .inl En → En = X1 ∨ En = X2 := by
  intro En hG
  rcases q with ⟨En2, e, hc, -⟩ | ⟨τ1, e, -⟩
  · rw [hG] at e
    cases e
    rcases hc with hc | hc
    · exact Or.inl hc.1
    · exact Or.inr hc.1
  · rw [hG] at e; cases e
theorem hE3 {G : wR} {X1 X2 X3 : String} {τ : CT} {r0 : Option Int64} {σ1 : MT} {th : Int32} (q : xEq G [X1, X2, X3] τ r0 σ1 th) : ∀ En, G = .inl En → En = X1 ∨ En = X2 ∨ En = X3 := by
  intro En hG
  rcases q with ⟨En2, e, hc, -⟩ | ⟨τ1, e, -⟩
  · rw [hG] at e
    cases e
    rcases hc with hc | hc | hc
    · exact Or.inl hc.1
    · exact Or.inr (Or.inl hc.1)
    · exact Or.inr (Or.inr hc.1)
  · rw [hG] at e; cases e
/-- what a wrapper leaves, held against the reference -/
theorem l_post {E : Nat → ClassId} {Pr : Nat → Prop} {h h1 : XW} {xq ou : Nat} {fo : Nat → Int64} {G : wR} {xs : List String} {v : Option Value} {τ : CT} {ad : Nat → Nat → Nat} {fa : Nat → Nat → Option Nat} {r0 : Option Int64} {σ1 : MT} {th1 : Int32} (hn : xs.Nodup) (hR : RC E Pr τ ad fa h) (h00 : ad 0 0 = xq) (hW : CW τ) (ho : h ou = some (.inl (E 1, 1, .inr (.inl fo)))) (hq : xEq G xs τ r0 σ1 th1) (hw : wQ E Pr h xq ou fo G xs v h1) :
    v = some (.int th1) ∧ ∃ τ1 ad1 fa1 fo1, Rel σ1 τ1 ∧ CW τ1 ∧ RC E Pr τ1 ad1 fa1 h1 ∧ ad1 0 0 = xq ∧ (∀ q, Pr q → q ≠ ou → h1 q = h q) ∧ h1 ou = some (.inl (E 1, 1, .inr (.inl fo1))) ∧ (th1 = nI 0 → ∀ x, r0 = some x → fo1 0 = x) := by
  rcases hq with ⟨En, e, hc, hr⟩ | ⟨τ1, e, hth, hr⟩
  · rcases hw with ⟨En2, k, e2, hc2, hv, hh⟩ | ⟨r2, τ2, e2, -⟩
    · rw [e] at e2
      cases e2
      subst hh
      refine ⟨by rw [hv, wcode_fun hn hc2 hc], τ, ad, fa, fo, hr, hW, hR, h00, fun _ _ _ => rfl, ho, fun z => absurd z (wcode_ne hc)⟩
    · rw [e] at e2; cases e2
  · rcases hw with ⟨En2, k, e2, -⟩ | ⟨r2, τ2, e2, hv, hW2, hpr, ⟨ad2, fa2, hR2, h002⟩, ho2⟩
    · rw [e] at e2; cases e2
    · rw [e] at e2
      cases e2
      refine ⟨by rw [hv, hth], τ1, ad2, fa2, wout fo r0, hr, hW2, hR2, h002, hpr, ho2, fun _ x hx => ?_⟩
      subst hx
      show vp_updL fo 0 x 0 = x
      simp [vp_updL]
theorem l_next {E : Nat → ClassId} {X r ou : Nat} {σ1 : MT} {τ1 : CT} {th1 : Int32} {ad1 : Nat → Nat → Nat} {fa1 : Nat → Nat → Option Nat} {ar : Nat → Nat} {fo1 : Nat → Int64} {h1 h2 : XW} {B : Nat} (hR1 : RC E (lPr r ou ar) τ1 ad1 fa1 h1) (h00 : ad1 0 0 = X) (hM2 : RM E σ1 th1 r (arN ar B) h2) (hB : ∀ b e, h1 b = some e → b < B) (hF2 : xF r (arN ar B) h1 h2) (hou : ou ≠ r ∧ ∀ k, k < 37 → isA8 k = true → ou ≠ ar k) (ho1 : h1 ou = some (.inl (E 1, 1, .inr (.inl fo1)))) (hRel1 : Rel σ1 τ1) (hW1 : CW τ1) : h2 ou = some (.inl (E 1, 1, .inr (.inl fo1))) ∧ LI E X r ou h2 := by
  have key : ∀ q, q ≠ r → (∀ k, k < 37 → isA8 k = true → q ≠ ar k) → h1 q ≠ none → h2 q = h1 q := by
    intro q q1 q2 q3
    refine hF2 q q1 (fun k hk => ?_)
    unfold arN
    by_cases ha : isA8 k = true
    · rw [if_pos ha]; exact q2 k hk ha
    · rw [if_neg ha]
      intro z
      cases hh : h1 q with
      | none => exact q3 hh
      | some e => have := hB q e hh; omega
  have ho2 : h2 ou = some (.inl (E 1, 1, .inr (.inl fo1))) := (key ou hou.1 hou.2 (by rw [ho1]; exact fun z => by cases z)).trans ho1
  refine ⟨ho2, σ1, τ1, th1, ad1, fa1, arN ar B, fo1, ?_, h00, hM2, ⟨hou.1, fun k hk ha => ?_⟩, ho2, hRel1, hW1⟩
  · rw [lPr_re]
    refine hR1.prs (fun q hq hs => key q (fun z => hq (Or.inr (Or.inl z))) (fun k hk ha z => hq (Or.inr (Or.inr ⟨k, hk, ha, z⟩))) hs) (fun q hq => ?_)
    rcases hq with h | h | ⟨k, hk, ha, h⟩
    · rw [h, ho2]; exact fun z => by cases z
    · rw [h, hM2.1]; exact fun z => by cases z
    · have := hM2.some hk ha
      unfold arN at this
      rw [if_pos ha] at this
      rw [h]; exact this
  · unfold arN; rw [if_pos ha]; exact hou.2 k hk ha
section XWL
variable {p : Program} {l : Launch} {e : Env} {R : Room} {s : State} {m : MethodId} {args : Array Value} {below : List Frame} {meth : Method} {c : Code} {H : Heap} {locs : List Loc} {cells slots : Nat} {Q : State → Prop}
variable {cc : ByteArray} {pc : Nat} {ls : Array Slot} {rest st0 : List Value} {D : va_G} {E : Nat → ClassId} {h : XW} {lo : Nat} {H0 : Heap} {Ts : List Cond} {post : Option Value → XW → Prop}
theorem xcsW {y : MethodName} {bytes : ByteArray} {maxL nL na index mc ms : Nat} {ret : Option FieldType} {hh : List (Nat × Nat × Nat × Nat)} {ws : List Cond} {rm : Room} {own : String} {As : List Value} (S : CallFix p m c cc nL s args Ts own) (hM : Met l y ws rm (xPC lo D E h As) (xQ lo D post) mc ms (xA lo)) (cw : vx_CSW R s args own index y bytes maxL ret hh ws rm mc ms na) (I : XI lo D E h s H) (hX : XCa s) (hS : va_S (xA lo) H0 H locs) (hn : As.length = na) (hsize : ls.size = nL) (hst : st0 = As.reverse ++ rest) (hW : (rest.map fun v => v.category).sum ≤ 8) (hdg : decode cc pc = .ok (.invokestatic index, 3)) (hf : cells + mc ≤ R.cells ∧ slots + ms ≤ R.slots)
    (kk : ∀ (v : Option Value) (h2 : XW) (H1 : Heap) (locs1 : List Loc), post v h2 → XI lo D E h2 s H1 → va_S (xA lo) H0 H1 locs1 → W p l e R s m args below meth c H1 locs1 (cells + mc) (slots + ms) Q (F0 m (pc + 3) ls (v.toList ++ rest))) : W p l e R s m args below meth c H locs cells slots Q (F0 m pc ls st0) :=
  xcQ (vx_runSW (As := As) (rest := rest) S hM cw ⟨xPC_blind, fun U hU hW => ⟨rfl, by show XI lo D E h U U.heap; rw [hU]; exact XI.warm hW I, XCa.warm hW hX⟩⟩ rfl hn hsize hst (lv_room hW) hdg hf) I hS kk
end XWL
