theorem inlX0 : ∀ w ∈ wsX00, w ∈ wsL_law := fun _ h => List.mem_append_left _ (List.mem_append_left _ (List.mem_append_left _ (List.mem_append_left _ (List.mem_append_right _ h))))
theorem inlX1 : ∀ w ∈ wsX10, w ∈ wsL_law := fun _ h => List.mem_append_left _ (List.mem_append_left _ (List.mem_append_left _ (List.mem_append_left _ (List.mem_append_left _ (List.mem_append_left _ (List.mem_append_right _ h))))))
theorem inlX2 : ∀ w ∈ wsX20, w ∈ wsL_law := fun _ h => List.mem_append_left _ (List.mem_append_left _ (List.mem_append_left _ (List.mem_append_left _ (List.mem_append_left _ (List.mem_append_right _ h)))))
theorem inlX3 : ∀ w ∈ wsX30, w ∈ wsL_law := fun _ h => List.mem_append_left _ (List.mem_append_left _ (List.mem_append_left _ (List.mem_append_left _ (List.mem_append_left _ (List.mem_append_left _ (List.mem_append_left _ (List.mem_append_left _ (List.mem_append_right _ h))))))))
theorem inlX4 : ∀ w ∈ wsX40, w ∈ wsL_law := fun _ h => List.mem_append_left _ (List.mem_append_left _ (List.mem_append_left _ (List.mem_append_left _ (List.mem_append_left _ (List.mem_append_left _ (List.mem_append_left _ (List.mem_append_left _ (List.mem_append_left _ (List.mem_append_left _ (List.mem_append_right _ h))))))))))
theorem inlX5 : ∀ w ∈ wsX50, w ∈ wsL_law := fun _ h => List.mem_append_left _ (List.mem_append_left _ (List.mem_append_left _ (List.mem_append_left _ (List.mem_append_left _ (List.mem_append_left _ (List.mem_append_left _ (List.mem_append_right _ h)))))))
theorem inlX6 : ∀ w ∈ wsX60, w ∈ wsL_law := fun _ h => List.mem_append_left _ (List.mem_append_left _ (List.mem_append_left _ (List.mem_append_left _ (List.mem_append_left _ (List.mem_append_left _ (List.mem_append_left _ (List.mem_append_left _ (List.mem_append_left _ (List.mem_append_right _ h)))))))))
theorem inlX7 : ∀ w ∈ wsX70, w ∈ wsL_law := fun _ h => List.mem_append_left _ (List.mem_append_left _ (List.mem_append_left _ (List.mem_append_left _ (List.mem_append_left _ (List.mem_append_left _ (List.mem_append_left _ (List.mem_append_left _ (List.mem_append_left _ (List.mem_append_left _ (List.mem_append_left _ (List.mem_append_left _ (List.mem_append_right _ h))))))))))))
theorem inlX8 : ∀ w ∈ wsX80, w ∈ wsL_law := fun _ h => List.mem_append_left _ (List.mem_append_left _ (List.mem_append_left _ (List.mem_append_left _ (List.mem_append_left _ (List.mem_append_left _ (List.mem_append_left _ (List.mem_append_left _ (List.mem_append_left _ (List.mem_append_left _ (List.mem_append_left _ (List.mem_append_right _ h)))))))))))
theorem Rel0 : Rel mS0 cS0 := by
  refine ⟨⟨rfl, rfl, rfl, rfl, rfl, rfl, rfl, Nat.zero_le _, Nat.le_refl _, Nat.le_refl _⟩, ⟨fun k => Or.inl rfl, fun k => Or.inl rfl, fun k => Or.inl rfl, fun k => Or.inl rfl⟩, ?_, ?_, ?_, ?_, ?_, ?_, ?_, ?_, ?_, ?_, ?_, ?_⟩
  · intro m hm y hy
    refine ⟨fun z => absurd z (Nat.not_lt_zero _), fun _ => ⟨?_, rfl⟩⟩
    show (if 20 * m + y < 240 then nI 100 else 0) = nI 100
    exact if_pos (by omega)
  · exact fun m hm => ⟨fun z => absurd z (Nat.not_lt_zero _), fun _ => rfl⟩
  · exact fun s hs => absurd hs (Nat.not_lt_zero _)
  · exact fun s hs => absurd hs (Nat.not_lt_zero _)
  · exact fun s hs => absurd hs (Nat.not_lt_zero _)
  · exact fun s hs => absurd hs (Nat.not_lt_zero _)
  · exact fun c _ _ => ⟨rfl, rfl, rfl⟩
  · exact fun s hs c hc => ⟨fun z => absurd z (Nat.not_lt_zero _), fun _ => rfl⟩
  · exact fun s hs => absurd hs (Nat.not_lt_zero _)
  · exact fun s hs => absurd hs (Nat.not_lt_zero _)
  · exact fun i hi => Or.inl ⟨(if_pos hi : (if i < 80 then (-1 : Int32) else 0) = -1), (if_pos hi : (if i < 80 then (-1 : Int32) else 0) = -1)⟩
  · exact fun y hy => ⟨rfl, rfl, ⟨fun _ => Nat.zero_le _, fun _ => rfl⟩, Or.inl ⟨rfl, (if_pos hy : (if y < 20 then (-1 : Int32) else 0) = -1)⟩⟩
theorem k_prim {s : State} {args : Array Value} {ty : FieldType} (h : (Cond.arrayClass ty).before args s = true) : ∃ cA : ClassId, ArrOfT s cA ty ∧ s.vm.findClass ("[" ++ ty.toString) = some cA := by
  obtain ⟨c, k, comp, h1, h2, h3⟩ := Cond.arrayClass_spec h
  exact ⟨c, fun n z => ⟨fun k h => (by cases h), k, h2, comp, h3⟩, h1⟩
theorem k_obj {s : State} {args : Array Value} {C : String} (h : (Cond.arrayOver (.object C)).before args s = true) : ∃ cA : ClassId, ArrOfT s cA (.object C) ∧ va_RA s cA (.object C) := by
  obtain ⟨comp, c, k, h1, h2, h3, h4, h5⟩ := Cond.arrayOver_spec h
  exact ⟨c, fun n z => ⟨fun k h => (by cases h), k, h3, comp, h4⟩, k, comp, h3, h4, h1, h5⟩
theorem k_str {s : State} {args : Array Value} {own tx : String} {k : Nat} (h0 : (Cond.stringRef own k tx).before args s = true) : ∃ sa, vk_R own k tx sa s := by
  have h : (Cond.stringRef own k tx).before #[] s = true := by first | exact h0 | simpa [Cond.before, Cond.holds, Cond.value] using h0
  have hcur : ∃ cur, s.vm.findClass own = some cur := by
    have h1 := h
    simp only [Cond.before, Cond.holds, Cond.value] at h1
    cases hc : s.vm.findClass own with
    | none => simp [hc] at h1
    | some cur => exact ⟨cur, rfl⟩
  obtain ⟨cur, hcur⟩ := hcur
  obtain ⟨k1, cf, i, a, -, -, -, -, -, hev⟩ := Cond.stringRef_spec hcur h
  exact ⟨a, h, hev⟩
theorem xlits_ok : ∀ p ∈ xlits, Cond.stringRef RX7 p.1 p.2 ∈ lw_tbl := by decide +kernel
theorem xbad_ok : ∀ w ∈ xbad, w ∈ lw_tbl := by decide +kernel
theorem xcast_ok : ∀ X ∈ xnms3, Cond.castable X X ∈ lw_tbl := by decide +kernel
theorem xncast_ok : ∀ X ∈ xnms3, ∀ Y ∈ xnms3, X ≠ Y → Cond.not (.castable X Y) ∈ flatC (Jvm.Cond.and given_1 narrow_1) := by decide +kernel
theorem s_XCa {s : State} {args : Array Value} (hts : ∀ w ∈ lw_tbl, w.before args s = true) (hgv : (Jvm.Cond.and given_1 narrow_1).before args s = true) : XCa s :=
  ⟨fun X hX => va_Nw.of rfl (hts _ (xcast_ok X hX)), fun X hX Y hY hn => va_Nc.of (flat_of_before _ hgv _ (xncast_ok X hX Y hY hn))⟩
theorem s_XT {s : State} {args : Array Value} (hts : ∀ w ∈ lw_tbl, w.before args s = true) (hgv : (Jvm.Cond.and given_1 narrow_1).before args s = true) : XT s.heap.size s s.heap :=
  ⟨vx_Zqof (hts _ (by decide +kernel)) (hts _ (by decide +kernel)) (flat_of_before _ hgv _ (by decide +kernel)) (fun a ha => Nat.not_le.mpr ha), vx_Zqof (hts _ (by decide +kernel)) (hts _ (by decide +kernel)) (flat_of_before _ hgv _ (by decide +kernel)) (fun a ha => Nat.not_le.mpr ha), fun p hp => k_str (hts _ (xlits_ok p hp)), fun w hw => xCD_tabs (xbad_cd w hw) rfl (hts _ (xbad_ok w hw))⟩
theorem s_XAw {s : State} {args : Array Value} (hts : ∀ w ∈ lw_tbl, w.before args s = true) : XAw s :=
  ⟨va_Nw.of rfl (hts _ (by decide +kernel)), fun C hC => va_AO.of (hts _ ((show ∀ C ∈ [RX3, RX5, RX1, RX0, RX2, RX6], Cond.arrayOver (.object C) ∈ lw_tbl by decide +kernel) C hC))⟩
theorem s_K {s : State} {args : Array Value} (hts : ∀ w ∈ lw_tbl, w.before args s = true) (hts2 : ∀ w ∈ wsL_law, w.before args s = true) : ∃ (D : va_G) (E : Nat → ClassId), va_K D vwCl (xtys E) s := by
  obtain ⟨c0, i0, hk0⟩ := u_known (C := RX0) (T := TX0) (N := 8) (n := 8) hts2 inlX0 (hts (.instantiable RX0 8) (by decide +kernel))
  obtain ⟨c1, i1, hk1⟩ := u_known (C := RX1) (T := TX1) (N := 3) (n := 3) hts2 inlX1 (hts (.instantiable RX1 3) (by decide +kernel))
  obtain ⟨c2, i2, hk2⟩ := u_known (C := RX2) (T := TX2) (N := 3) (n := 3) hts2 inlX2 (hts (.instantiable RX2 3) (by decide +kernel))
  obtain ⟨c3, i3, hk3⟩ := u_known (C := RX3) (T := TX3) (N := 5) (n := 5) hts2 inlX3 (hts (.instantiable RX3 5) (by decide +kernel))
  obtain ⟨c4, i4, hk4⟩ := u_known (C := RX4) (T := TX4) (N := 2) (n := 2) hts2 inlX4 (hts (.instantiable RX4 2) (by decide +kernel))
  obtain ⟨c5, i5, hk5⟩ := u_known (C := RX5) (T := TX5) (N := 4) (n := 4) hts2 inlX5 (hts (.instantiable RX5 4) (by decide +kernel))
  obtain ⟨c6, i6, hk6⟩ := u_known (C := RX6) (T := TX6) (N := 7) (n := 7) hts2 inlX6 (hts (.instantiable RX6 7) (by decide +kernel))
  obtain ⟨c7, i7, hk7⟩ := u_known (C := RX7) (T := TX7) (N := 14) (n := 14) hts2 inlX7 (hts (.instantiable RX7 14) (by decide +kernel))
  obtain ⟨c8, i8, hk8⟩ := u_known (C := RX8) (T := TX8) (N := 37) (n := 37) hts2 inlX8 (hts (.instantiable RX8 37) (by decide +kernel))
  obtain ⟨e0, h0, g0⟩ := k_prim (ty := .int) (hts _ (by decide +kernel))
  obtain ⟨e1, h1, g1⟩ := k_prim (ty := .long) (hts _ (by decide +kernel))
  obtain ⟨e2, h2, g2⟩ := k_prim (ty := .boolean) (hts _ (by decide +kernel))
  obtain ⟨e3, h3⟩ := k_obj (C := RX3) (hts _ (by decide +kernel))
  obtain ⟨e4, h4⟩ := k_obj (C := RX5) (hts _ (by decide +kernel))
  obtain ⟨e5, h5⟩ := k_obj (C := RX1) (hts _ (by decide +kernel))
  obtain ⟨e6, h6⟩ := k_obj (C := RX0) (hts _ (by decide +kernel))
  obtain ⟨e7, h7⟩ := k_obj (C := RX2) (hts _ (by decide +kernel))
  obtain ⟨e8, h8⟩ := k_obj (C := RX6) (hts _ (by decide +kernel))
  refine ⟨(fun k => match k with
    | 0 => c0
    | 1 => c1
    | 2 => c2
    | 3 => c3
    | 4 => c4
    | 5 => c5
    | 6 => c6
    | 7 => c7
    | _ => c8, fun k => match k with
    | 0 => i0
    | 1 => i1
    | 2 => i2
    | 3 => i3
    | 4 => i4
    | 5 => i5
    | 6 => i6
    | 7 => i7
    | _ => i8), fun k => match k with
    | 0 => e0
    | 1 => e1
    | 2 => e2
    | 3 => e3
    | 4 => e4
    | 5 => e5
    | 6 => e6
    | 7 => e7
    | _ => e8, fun k q hq => ?_, fun k q hq => ?_⟩
  · match k, hq with
    | 0, hq => cases hq; exact hk0
    | 1, hq => cases hq; exact hk1
    | 2, hq => cases hq; exact hk2
    | 3, hq => cases hq; exact hk3
    | 4, hq => cases hq; exact hk4
    | 5, hq => cases hq; exact hk5
    | 6, hq => cases hq; exact hk6
    | 7, hq => cases hq; exact hk7
    | 8, hq => cases hq; exact hk8
    | k + 9, hq => simp [vwCl] at hq
  · match k, hq with
    | 0, hq => cases hq; exact ⟨h0, g0⟩
    | 1, hq => cases hq; exact ⟨h1, g1⟩
    | 2, hq => cases hq; exact ⟨h2, g2⟩
    | 3, hq => cases hq; exact h3
    | 4, hq => cases hq; exact h4
    | 5, hq => cases hq; exact h5
    | 6, hq => cases hq; exact h6
    | 7, hq => cases hq; exact h7
    | 8, hq => cases hq; exact h8
    | k + 9, hq => simp [xtys] at hq
section XWS
variable {p : Program} {l : Launch} {e : Env} {R : Room} {s : State} {m : MethodId} {args : Array Value} {below : List Frame} {meth : Method} {c : Code} {H : Heap} {locs : List Loc} {cells slots : Nat} {Q : State → Prop}
variable {cc : ByteArray} {pc : Nat} {ls : Array Slot} {rest st0 : List Value} {D : va_G} {E : Nat → ClassId} {h : XW} {lo : Nat} {H0 : Heap} {Ts : List Cond} {post : Option Value → XW → Prop}
theorem xciA {y : MethodName} {bytes : ByteArray} {maxL nL na index mc ms : Nat} {ws : List Cond} {rm : Room} {own : String} {b : Addr} {As : List Value} (S : CallFix p m c cc nL s args Ts own) (hM : Met l y ws rm (va_Pc (.ref b :: As) (fun U => XI lo D E h U U.heap ∧ XAw U)) (xQ lo D post) mc ms (xA lo)) (cw : CallB R s args own index y bytes maxL none ws rm mc ms na ∧ y.name = "<init>" ∧ (Cond.instanceMethod y).before args s = true) (I : XI lo D E h s H) (hX : XAw s) (hS : va_S (xA lo) H0 H locs) (hn : As.length = na) (hsize : ls.size = nL) (hst : st0 = As.reverse ++ .ref b :: rest) (hW : (rest.map fun v => v.category).sum ≤ 8) (hdg : decode cc pc = .ok (.invokespecial index, 3)) (hf : cells + mc ≤ R.cells ∧ slots + ms ≤ R.slots)
    (kk : ∀ (v : Option Value) (h2 : XW) (H1 : Heap) (locs1 : List Loc), post v h2 → XI lo D E h2 s H1 → va_S (xA lo) H0 H1 locs1 → W p l e R s m args below meth c H1 locs1 (cells + mc) (slots + ms) Q (F0 m (pc + 3) ls (v.toList ++ rest))) : W p l e R s m args below meth c H locs cells slots Q (F0 m pc ls st0) :=
  xcQ (va_runI (As := As) (rest := rest) S hM cw ⟨fun a U g mk ⟨h1, h2, h3⟩ => ⟨h1, XI.same (s := U) rfl h2, XAw.same (s := U) rfl h3⟩, fun U hU hW => ⟨rfl, by show XI lo D E h U U.heap; rw [hU]; exact XI.warm hW I, XAw.warm hW hX⟩⟩ rfl hn hsize hst (lv_room hW) hdg hf) I hS kk
end XWS
set_option maxHeartbeats 4000000 in
set_option maxRecDepth 100000 in
theorem whole_start {p : Program} {e : Env} {s : State} {m : MethodId} {below : List Frame} {meth : Method} {c : Code} (l : Launch) (hflags : l.flags = flags0) {b L : Nat} {xs : Nat → Int32} (hL : L ≤ 3072) (C0 : lw_At p s m meth c b L xs) : W p l e room_1 s m #[Value.ref b] below meth c s.heap [] 0 0 (lw_Z below #[Value.ref b] s) (entryFrame m ([Value.ref b] : List Value).toArray 8) := by
  obtain ⟨hx, hb, hr, hml, hown0, hts0, hX, hbl, hlocks, hgv⟩ := C0
  have hts : ∀ w ∈ wsL_law, w.before #[Value.ref b] s = true := fun w hw => hts0 w (wsL_law_in w hw)
  have hown : s.vm.findClass RL = some m.cls := hown0
  have hlst : l.stackTraces = false := by unfold Launch.stackTraces; rw [hflags]; decide
  have hCa : XCa s := s_XCa hts0 hgv
  have hAw : XAw s := s_XAw hts0
  obtain ⟨D, E, hK⟩ := s_K hts0 hts
  have I : XI s.heap.size D E (fun _ => none) s s.heap := ⟨Nat.le_refl _, fun a e he => (by cases he), fun a e he => (by cases he), hK, s_XT hts0 hgv⟩
  have hS : va_S (xA s.heap.size) s.heap s.heap [] := va_S.rf
  have hl := lv_entry ([.ref b] : List Value) (n := 8) (Nat.le_of_ble_eq_true rfl)
  rw [lg_entry_eq]
  generalize (lg_sl ([.ref b] : List Value) ++ List.replicate (8 - (lg_sl ([.ref b] : List Value)).length) Slot.unset).toArray = ls at hl ⊢
  have hl : lv_has ls 8 [(0, .ref b)] := hl
  refine xnewL (C := RX7) (T := TX7) (N := 14) (ci := 7) (fs := [.null, .null, .null, .null, .null, .null, .null, .int 0, .int 0, .int 0, .int 0, .int 0, .int 0, .long 0]) (h0 := fun _ => none) hx hb hts inlX7 tyX7 tyX7_ok hown (List.mem_of_getElem? (i := 0) rfl) (List.mem_of_getElem? (i := 1) rfl) (List.mem_of_getElem? (i := 2) rfl) I xNs.nil hS rfl (by decide) (Nat.le_of_ble_eq_true rfl) (Nat.le_of_ble_eq_true rfl) dL_law_0 (fun q7 H h1 I hN hS => ?_)
  refine lv_dup hx hb dL_law_3 rfl ?_
  refine xciA (As := []) (rest := [.ref q7]) ⟨hx, hb, hml, hown, hts⟩ (mX7_init l s.heap.size D E h1 _ [] q7 hN) (cwI 0 hts gL_law_X7_init rfl rfl rfl (hts _ (List.mem_of_getElem? (i := 2) rfl)) (hts _ (List.mem_of_getElem? (i := 7) rfl)) (hts _ (List.mem_of_getElem? (i := 8) rfl)) rfl (by decide +kernel) ⟨Nat.le_of_ble_eq_true rfl, Nat.le_of_ble_eq_true rfl⟩) I hAw hS rfl hl.1 rfl (Nat.le_of_ble_eq_true rfl) dL_law_4 ⟨Nat.le_of_ble_eq_true rfl, Nat.le_of_ble_eq_true rfl⟩ (fun v9 h2 H locs q9 I hS => ?_)
  obtain ⟨rfl, a7, a16, a25, a34, a43, a52, o59, b1, b2, ys, hys, hN7⟩ := q9
  have hR0 := xRC0 (E := E) (Pr := fun _ => False) hys hN7 (fun b hb => absurd hb id)
  refine W.eq (g2 := F0 m 7 ls [.ref q7]) rfl ?_
  refine lv_astore_n (lv' := [(1, .ref q7), (0, .ref b)]) hx hb dL_law_7 rfl hl (by decide) rfl (fun ls hl => ?_)
  refine xnewL (C := RX8) (T := TX8) (N := 37) (ci := 8) (fs := [.int 0, .int 0, .int 0, .null, .null, .null, .null, .null, .int 0, .null, .null, .int 0, .null, .null, .null, .null, .null, .null, .null, .null, .int 0, .null, .null, .null, .null, .null, .null, .null, .null, .null, .int 0, .null, .null, .null, .int 0, .long 0, .null]) (h0 := h2) hx hb hts inlX8 tyX8 tyX8_ok hown (List.mem_of_getElem? (i := 3) rfl) (List.mem_of_getElem? (i := 4) rfl) (List.mem_of_getElem? (i := 5) rfl) I xNs.nil hS rfl (by decide) (Nat.le_of_ble_eq_true rfl) (Nat.le_of_ble_eq_true rfl) dL_law_8 (fun q8 H h3 I hN hS => ?_)
  refine lv_dup hx hb dL_law_11 rfl ?_
  refine xciQ (As := []) (rest := [.ref q8]) ⟨hx, hb, hml, hown, hts⟩ (mX8_init l s.heap.size D E h3 _ [] q8 hN) (cwI 0 hts gL_law_X8_init rfl rfl rfl (hts _ (List.mem_of_getElem? (i := 5) rfl)) (hts _ (List.mem_of_getElem? (i := 45) rfl)) (hts _ (List.mem_of_getElem? (i := 46) rfl)) rfl (by decide +kernel) ⟨Nat.le_of_ble_eq_true rfl, Nat.le_of_ble_eq_true rfl⟩) I hS rfl hl.1 rfl (Nat.le_of_ble_eq_true rfl) dL_law_12 ⟨Nat.le_of_ble_eq_true rfl, Nat.le_of_ble_eq_true rfl⟩ (fun v9 h4 H locs q9 I hS => ?_)
  obtain ⟨rfl, a8, a16, a24, a33, a42, a50, a58, a66, a74, a82, a90, a98, a106, a114, a122, a130, a138, a146, a154, a162, a170, a178, a186, a194, a202, a210, a218, a227, hN8⟩ := q9
  obtain ⟨hM0, hn8, hb8, hs8⟩ := xRM0 (B := H.size) hN8 (fun b e he => I.lt b e he)
  refine W.eq (g2 := F0 m 15 ls [.ref q8]) rfl ?_
  refine lv_astore_n (lv' := [(2, .ref q8), (1, .ref q7), (0, .ref b)]) hx hb dL_law_15 rfl hl (by decide) rfl (fun ls hl => ?_)
  refine lv_iconst (v := nI 1) hx hb dL_law_16 (by decide) ?_
  refine xnewaN (a0 := .inl (0, (1, .inr (.inl (fun _ => 0))))) (t := 1) (ty := .long) (N := 1) (x := (1, .inr (.inl (fun _ => 0)))) (h0 := h4) hx hb hts (List.mem_of_getElem? (i := 6) rfl) rfl I xNs.nil hS rfl (fun C z => by cases z) (fun cA => rfl) (by decide) (by decide) (Nat.le_of_ble_eq_true rfl) (Nat.le_of_ble_eq_true rfl) dL_law_17 (fun ou H2 h5 I hN9 hS => ?_)
  refine lv_astore_n (lv' := [(3, .ref ou), (2, .ref q8), (1, .ref q7), (0, .ref b)]) hx hb dL_law_19 rfl hl (by decide) rfl (fun ls hl => ?_)
  refine lv_iconst (v := nI 0) hx hb dL_law_20 (by decide) ?_
  refine lv_istore (lv' := [(4, .int (nI 0)), (3, .ref ou), (2, .ref q8), (1, .ref q7), (0, .ref b)]) hx hb dL_law_21 hl (by decide) rfl (fun ls hl => ?_)
  have hou : h5 ou = some (.inl (E 1, 1, .inr (.inl (fun _ => 0)))) := hN9.get (k := 0) rfl
  have hou4 : h4 ou = none := hN9.none (k := 0) rfl
  have hq8 : h4 q8 ≠ none := by rw [hM0.1]; exact fun z => by cases z
  have hq82 : h2 q8 = none := hN8.none (k := 28) rfl
  have hou2 : h2 ou = none := by
    cases hh : h2 ou with
    | none => rfl
    | some e =>
      have := hN8.old (b := ou) (by rw [hh]; exact fun z => by cases z)
      rw [hou4, hh] at this
      cases this
  have hLI : LI E q7 q8 ou h5 := by
    refine ⟨mS0, cS0, 0, _, _, _, _, hR0.more (h1 := h5) (fun b hb => ?_) (fun b hb => ?_) (fun b hb => ?_), rfl, hM0.keep (hN9.old hq8) (fun k hk ha => hN9.old (hs8 k hk ha)), ⟨fun z => hq8 (z ▸ hou4), fun k hk ha z => hs8 k hk ha (z ▸ hou4)⟩, hou, Rel0, CW0⟩
    · have h48 := hN8.old hb
      rw [← h48]
      exact hN9.old (by rw [h48]; exact hb)
    · rcases hb with hb | hb | ⟨k, hk, ha, hb⟩
      · rw [hb, hou]; exact fun z => by cases z
      · rw [hb, hN9.old hq8]; exact hq8
      · rw [hb, hN9.old (hs8 k hk ha)]; exact hs8 k hk ha
    · rcases hb with hb | hb | ⟨k, hk, ha, hb⟩
      · rw [hb]; exact Or.inr hou2
      · rw [hb]; exact Or.inr hq82
      · rw [hb]; exact Or.inr (hn8 k hk ha)
  exact law_loop ⟨hx, hb, hml, hown, hts, hX, hbl, hCa, hlst⟩ hr hlocks hL (L + 1) 0 (Nat.zero_le L) (by omega) h5 H2 _ _ _ ls (by omega) (by omega) hLI I hS (lv_sub hl [4, 3, 2, 1, 0] rfl)
