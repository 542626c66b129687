theorem k_prim {s : State} {args : Array Value} {ty : FieldType} (h : (Cond.arrayClass ty).before args s = true) : ∃ cA : ClassId, ArrOfT s cA ty ∧ s.vm.findClass ("[" ++ ty.toString) = some cA := by
  obtain ⟨c, k, comp, h1, h2, h3⟩ := Cond.arrayClass_spec h
  exact ⟨c, fun n z => ⟨fun k h => (by cases h), k, h2, comp, h3⟩, h1⟩
theorem k_obj {s : State} {args : Array Value} {C : String} (h : (Cond.arrayOver (.object C)).before args s = true) : ∃ cA : ClassId, ArrOfT s cA (.object C) ∧ va_RA s cA (.object C) := by
  obtain ⟨comp, c, k, h1, h2, h3, h4, h5⟩ := Cond.arrayOver_spec h
  exact ⟨c, fun n z => ⟨fun k h => (by cases h), k, h3, comp, h4⟩, k, comp, h3, h4, h1, h5⟩
theorem k_str {s : State} {args : Array Value} {own tx : String} {k : Nat} (h0 : (Cond.stringRef own k tx).before args s = true) : ∃ sa, vk_R own k tx sa s := by
  have h : (Cond.stringRef own k tx).before #[] s = true := by first | exact h0 | simpa [Cond.before, Cond.holds, Cond.value] using h0
  have hcur : ∃ cur, s.vm.findClass own = some cur := by
    have h1 := h
    simp only [Cond.before, Cond.holds, Cond.value] at h1
    cases hc : s.vm.findClass own with
    | none => simp [hc] at h1
    | some cur => exact ⟨cur, rfl⟩
  obtain ⟨cur, hcur⟩ := hcur
  obtain ⟨k1, cf, i, a, -, -, -, -, -, hev⟩ := Cond.stringRef_spec hcur h
  exact ⟨a, h, hev⟩
theorem xlits_ok : ∀ p ∈ xlits, Cond.stringRef RX7 p.1 p.2 ∈ lw_tbl := by decide +kernel
theorem xbad_ok : ∀ w ∈ xbad, w ∈ lw_tbl := by decide +kernel
theorem s_XCb {s : State} {args : Array Value} (hts : ∀ w ∈ lw_tbl, w.before args s = true) : XCb s := va_Nw.of rfl (hts _ (by decide +kernel))
theorem s_XT {s : State} {args : Array Value} (hts : ∀ w ∈ lw_tbl, w.before args s = true) (hgv : (Jvm.Cond.and given_1 narrow_1).before args s = true) : XT s.heap.size s s.heap :=
  ⟨vx_Zqof (hts _ (by decide +kernel)) (hts _ (by decide +kernel)) (flat_of_before _ hgv _ (by decide +kernel)) (fun a ha => Nat.not_le.mpr ha), vx_Zqof (hts _ (by decide +kernel)) (hts _ (by decide +kernel)) (flat_of_before _ hgv _ (by decide +kernel)) (fun a ha => Nat.not_le.mpr ha), fun p hp => k_str (hts _ (xlits_ok p hp)), fun w hw => xCD_tabs (xbad_cd w hw) rfl (hts _ (xbad_ok w hw))⟩
theorem s_XAw {s : State} {args : Array Value} (hts : ∀ w ∈ lw_tbl, w.before args s = true) : XAw s :=
  ⟨va_Nw.of rfl (hts _ (by decide +kernel)), fun C hC => va_AO.of (hts _ ((show ∀ C ∈ [RX3, RX5, RX1, RX0, RX2, RX6], Cond.arrayOver (.object C) ∈ lw_tbl by decide +kernel) C hC))⟩
theorem s_K {s : State} {args : Array Value} (hts : ∀ w ∈ lw_tbl, w.before args s = true) (hts2 : ∀ w ∈ wsL_law, w.before args s = true) : ∃ (D : va_G) (E : Nat → ClassId), va_K D vwCl (xtys E) s := by
  obtain ⟨c0, i0, hk0⟩ := u_known (C := RX0) (T := TX0) (N := 8) (n := 8) hts2 inlX0 (hts (.instantiable RX0 8) (by decide +kernel))
  obtain ⟨c1, i1, hk1⟩ := u_known (C := RX1) (T := TX1) (N := 3) (n := 3) hts2 inlX1 (hts (.instantiable RX1 3) (by decide +kernel))
  obtain ⟨c2, i2, hk2⟩ := u_known (C := RX2) (T := TX2) (N := 3) (n := 3) hts2 inlX2 (hts (.instantiable RX2 3) (by decide +kernel))
  obtain ⟨c3, i3, hk3⟩ := u_known (C := RX3) (T := TX3) (N := 5) (n := 5) hts2 inlX3 (hts (.instantiable RX3 5) (by decide +kernel))
  obtain ⟨c4, i4, hk4⟩ := u_known (C := RX4) (T := TX4) (N := 2) (n := 2) hts2 inlX4 (hts (.instantiable RX4 2) (by decide +kernel))
  obtain ⟨c5, i5, hk5⟩ := u_known (C := RX5) (T := TX5) (N := 4) (n := 4) hts2 inlX5 (hts (.instantiable RX5 4) (by decide +kernel))
  obtain ⟨c6, i6, hk6⟩ := u_known (C := RX6) (T := TX6) (N := 7) (n := 7) hts2 inlX6 (hts (.instantiable RX6 7) (by decide +kernel))
  obtain ⟨c7, i7, hk7⟩ := u_known (C := RX7) (T := TX7) (N := 14) (n := 14) hts2 inlX7 (hts (.instantiable RX7 14) (by decide +kernel))
  obtain ⟨e0, h0, g0⟩ := k_prim (ty := .int) (hts _ (by decide +kernel))
  obtain ⟨e1, h1, g1⟩ := k_prim (ty := .long) (hts _ (by decide +kernel))
  obtain ⟨e2, h2, g2⟩ := k_prim (ty := .boolean) (hts _ (by decide +kernel))
  obtain ⟨e3, h3⟩ := k_obj (C := RX3) (hts _ (by decide +kernel))
  obtain ⟨e4, h4⟩ := k_obj (C := RX5) (hts _ (by decide +kernel))
  obtain ⟨e5, h5⟩ := k_obj (C := RX1) (hts _ (by decide +kernel))
  obtain ⟨e6, h6⟩ := k_obj (C := RX0) (hts _ (by decide +kernel))
  obtain ⟨e7, h7⟩ := k_obj (C := RX2) (hts _ (by decide +kernel))
  obtain ⟨e8, h8⟩ := k_obj (C := RX6) (hts _ (by decide +kernel))
  refine ⟨(fun k => match k with
    | 0 => c0
    | 1 => c1
    | 2 => c2
    | 3 => c3
    | 4 => c4
    | 5 => c5
    | 6 => c6
    | _ => c7, fun k => match k with
    | 0 => i0
    | 1 => i1
    | 2 => i2
    | 3 => i3
    | 4 => i4
    | 5 => i5
    | 6 => i6
    | _ => i7), fun k => match k with
    | 0 => e0
    | 1 => e1
    | 2 => e2
    | 3 => e3
    | 4 => e4
    | 5 => e5
    | 6 => e6
    | 7 => e7
    | _ => e8, fun k q hq => ?_, fun k q hq => ?_⟩
  · match k, hq with
    | 0, hq => cases hq; exact hk0
    | 1, hq => cases hq; exact hk1
    | 2, hq => cases hq; exact hk2
    | 3, hq => cases hq; exact hk3
    | 4, hq => cases hq; exact hk4
    | 5, hq => cases hq; exact hk5
    | 6, hq => cases hq; exact hk6
    | 7, hq => cases hq; exact hk7
    | k + 8, hq => simp [vwCl] at hq
  · match k, hq with
    | 0, hq => cases hq; exact ⟨h0, g0⟩
    | 1, hq => cases hq; exact ⟨h1, g1⟩
    | 2, hq => cases hq; exact ⟨h2, g2⟩
    | 3, hq => cases hq; exact h3
    | 4, hq => cases hq; exact h4
    | 5, hq => cases hq; exact h5
    | 6, hq => cases hq; exact h6
    | 7, hq => cases hq; exact h7
    | 8, hq => cases hq; exact h8
    | k + 9, hq => simp [xtys] at hq
section XWS
variable {p : Program} {l : Launch} {e : Env} {R : Room} {s : State} {m : MethodId} {args : Array Value} {below : List Frame} {meth : Method} {c : Code} {H : Heap} {locs : List Loc} {cells slots : Nat} {Q : State → Prop}
variable {cc : ByteArray} {pc : Nat} {ls : Array Slot} {rest st0 : List Value} {D : va_G} {E : Nat → ClassId} {h : XW} {lo : Nat} {H0 : Heap} {Ts : List Cond} {post : Option Value → XW → Prop}
theorem xciA {y : MethodName} {bytes : ByteArray} {maxL nL na index mc ms : Nat} {ws : List Cond} {rm : Room} {own : String} {b : Addr} {As : List Value} (S : CallFix p m c cc nL s args Ts own) (hM : Met l y ws rm (va_Pc (.ref b :: As) (fun U => XI lo D E h U U.heap ∧ XAw U)) (xQ lo D post) mc ms (xA lo)) (cw : CallB R s args own index y bytes maxL none ws rm mc ms na ∧ y.name = "<init>" ∧ (Cond.instanceMethod y).before args s = true) (I : XI lo D E h s H) (hX : XAw s) (hS : va_S (xA lo) H0 H locs) (hn : As.length = na) (hsize : ls.size = nL) (hst : st0 = As.reverse ++ .ref b :: rest) (hW : (rest.map fun v => v.category).sum ≤ 8) (hdg : decode cc pc = .ok (.invokespecial index, 3)) (hf : cells + mc ≤ R.cells ∧ slots + ms ≤ R.slots)
    (kk : ∀ (v : Option Value) (h2 : XW) (H1 : Heap) (locs1 : List Loc), post v h2 → XI lo D E h2 s H1 → va_S (xA lo) H0 H1 locs1 → W p l e R s m args below meth c H1 locs1 (cells + mc) (slots + ms) Q (F0 m (pc + 3) ls (v.toList ++ rest))) : W p l e R s m args below meth c H locs cells slots Q (F0 m pc ls st0) :=
  xcQ (va_runI (As := As) (rest := rest) S hM cw ⟨fun a U g mk ⟨h1, h2, h3⟩ => ⟨h1, XI.same (s := U) rfl h2, XAw.same (s := U) rfl h3⟩, fun U hU hW => ⟨rfl, by show XI lo D E h U U.heap; rw [hU]; exact XI.warm hW I, XAw.warm hW hX⟩⟩ rfl hn hsize hst (lv_room hW) hdg hf) I hS kk
end XWS
def arL (q0 q1 q2 q3 q4 q5 q6 q7 q8 q9 : Nat) (k : Nat) : Nat := match k with
  | 0 => q0
  | 1 => q1
  | 2 => q2
  | 3 => q3
  | 4 => q4
  | 5 => q5
  | 6 => q6
  | 7 => q7
  | 8 => q8
  | _ => q9
def posL (k : Nat) : Nat := match k with
  | 0 => 9
  | 1 => 8
  | 2 => 7
  | 3 => 6
  | 4 => 5
  | 5 => 4
  | 6 => 3
  | 7 => 1
  | 8 => 2
  | _ => 0
set_option maxHeartbeats 4000000 in
theorem xRA0 {E : Nat → ClassId} {h0 h : XW} {q0 q1 q2 q3 q4 q5 q6 q7 q8 q9 : Nat} (hN : xNs ((q9, .inl (E 1, 3, .inr (.inl (fun _ => 0)))) :: (q7, .inl (E 0, 16, .inl (fun _ => 0))) :: (q8, .inl (E 1, 9, .inr (.inl (fun _ => 0)))) :: (q6, .inl (E 0, 6, .inl (fun _ => 0))) :: (q5, .inl (E 0, 9, .inl (fun _ => 0))) :: (q4, .inl (E 0, 24, .inl (fun _ => 0))) :: (q3, .inl (E 0, 64, .inl (fun _ => 0))) :: (q2, .inl (E 0, 9, .inl (fun _ => 0))) :: (q1, .inl (E 0, 16, .inl (fun _ => 0))) :: (q0, .inl (E 0, 40, .inl (fun _ => 0))) :: []) h0 h) : RA E σS0 (arL q0 q1 q2 q3 q4 q5 q6 q7 q8 q9) h ∧ ∀ b, lPr (arL q0 q1 q2 q3 q4 q5 q6 q7 q8 q9) b → h b ≠ none ∧ h0 b = none := by
  have A : ∀ k, k < 10 → ∃ e, (((q9, .inl (E 1, 3, .inr (.inl (fun _ => 0)))) :: (q7, .inl (E 0, 16, .inl (fun _ => 0))) :: (q8, .inl (E 1, 9, .inr (.inl (fun _ => 0)))) :: (q6, .inl (E 0, 6, .inl (fun _ => 0))) :: (q5, .inl (E 0, 9, .inl (fun _ => 0))) :: (q4, .inl (E 0, 24, .inl (fun _ => 0))) :: (q3, .inl (E 0, 64, .inl (fun _ => 0))) :: (q2, .inl (E 0, 9, .inl (fun _ => 0))) :: (q1, .inl (E 0, 16, .inl (fun _ => 0))) :: (q0, .inl (E 0, 40, .inl (fun _ => 0))) :: []) : List (Nat × va_E))[posL k]? = some (arL q0 q1 q2 q3 q4 q5 q6 q7 q8 q9 k, e) := by
    intro k hk
    match k, hk with
    | 0, _ => exact ⟨_, rfl⟩
    | 1, _ => exact ⟨_, rfl⟩
    | 2, _ => exact ⟨_, rfl⟩
    | 3, _ => exact ⟨_, rfl⟩
    | 4, _ => exact ⟨_, rfl⟩
    | 5, _ => exact ⟨_, rfl⟩
    | 6, _ => exact ⟨_, rfl⟩
    | 7, _ => exact ⟨_, rfl⟩
    | 8, _ => exact ⟨_, rfl⟩
    | 9, _ => exact ⟨_, rfl⟩
    | n + 10, h9 => exact absurd h9 (by omega)
  refine ⟨⟨?_, ?_, ?_, ?_⟩, ?_⟩
  · intro k n hk
    simp only [lKs, List.mem_cons, Prod.mk.injEq, List.not_mem_nil, or_false] at hk
    rcases hk with ⟨rfl, rfl⟩ | ⟨rfl, rfl⟩ | ⟨rfl, rfl⟩ | ⟨rfl, rfl⟩ | ⟨rfl, rfl⟩
    · exact hN.get (k := 9) rfl
    · exact hN.get (k := 8) rfl
    · exact hN.get (k := 7) rfl
    · exact hN.get (k := 6) rfl
    · exact hN.get (k := 3) rfl
  · intro k n hk
    simp only [lIs, List.mem_cons, Prod.mk.injEq, List.not_mem_nil, or_false] at hk
    rcases hk with ⟨rfl, rfl⟩ | ⟨rfl, rfl⟩ | ⟨rfl, rfl⟩
    · exact hN.get (k := 5) rfl
    · exact hN.get (k := 4) rfl
    · exact hN.get (k := 1) rfl
  · intro k n hk
    simp only [lLs, List.mem_cons, Prod.mk.injEq, List.not_mem_nil, or_false] at hk
    rcases hk with ⟨rfl, rfl⟩ | ⟨rfl, rfl⟩
    · exact hN.get (k := 2) rfl
    · exact hN.get (k := 0) rfl
  · intro i j hi hj hz
    obtain ⟨e1, g1⟩ := A i hi
    obtain ⟨e2, g2⟩ := A j hj
    have hp : posL i = posL j := hN.2.2.1 _ _ _ _ g1 g2 hz
    have key : ∀ k : Fin 10, ∀ k' : Fin 10, posL k.val = posL k'.val → k.val = k'.val := by decide +kernel
    exact key ⟨i, hi⟩ ⟨j, hj⟩ hp
  · rintro b ⟨k, hk, rfl⟩
    obtain ⟨e1, g1⟩ := A k hk
    refine ⟨?_, hN.2.1 _ _ g1⟩
    have h3 := hN.1 _ _ g1
    intro z
    rw [show h (arL q0 q1 q2 q3 q4 q5 q6 q7 q8 q9 k) = some e1 from h3] at z
    cases z
theorem LWS0 : LW σS0 := by
  refine ⟨fun k => ?_, fun s _ => ?_, fun k => ?_, fun k => ?_, ⟨rfl, by decide⟩, fun t j => ?_, fun s => ?_⟩
  · show (0 : Nat) < 5; decide
  · show (0 : Nat) < 3; decide
  · show (0 : Nat) < 5; decide
  · show (0 : Nat) < 300; decide
  · show (0 : Nat) < 1073741824; decide
  · show (0 : Nat) ≤ 999; decide
