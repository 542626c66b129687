set_option maxHeartbeats 4000000 in
set_option maxRecDepth 100000 in
theorem mJ7_fill_53178 (l : Launch) (lo : Nat) (D : va_G) (E : Nat → ClassId) (h h0 : XW) (L0 : List (Nat × va_E)) (a n : Nat) (f : Nat → Int32) (x : Int32) (hn : n < 2 ^ 31) (hN : xNs ((a, .inl (E 0, n, .inl f)) :: L0) h0 h) : Met l yJ7_fill_53178 wsJ7_fill_53178 ({ frames := 0, cells := 0, slots := 0, locals := 0 } : Room) (xP lo D E h [.ref a, .int x]) (xQ lo D (fun v h' => v = none ∧ xNs ((a, .inl (E 0, n, .inl (xfil x f n))) :: L0) h0 h')) 0 0 (xA lo) := by
  refine xofWF (cc := cJ7_fill_53178) (maxL := 4) (ret := none) (by decide +kernel) rfl ?_
  intro p e s m args below meth c s₁ B hml hv
  obtain ⟨rfl, I⟩ := hv
  have hx := B.exec
  have hb := B.bytes
  have hr := B.returns
  have hts := atoms_spec (ws := wsJ7_fill_53178) B.pre
  have hown : s.vm.findClass RJ7 = some m.cls := findClass_of_methodNamed B.named
  have hlocks := B.notSynchronized
  have hl := lv_entry ([.ref a, .int x] : List Value) (n := 4) (Nat.le_of_ble_eq_true rfl)
  rw [lg_entry_eq]
  generalize (lg_sl ([.ref a, .int x] : List Value) ++ List.replicate (4 - (lg_sl ([.ref a, .int x] : List Value)).length) Slot.unset).toArray = ls at hl ⊢
  have hl : lv_has ls 4 [(0, .ref a), (1, .int x)] := hl
  have hS : va_S (xA lo) s.heap s.heap [] := va_S.rf
  refine lv_iconst (v := (nI 0)) hx hb dJ7_fill_53178_0 (by decide) ?_
  refine lv_istore_n (lv' := [(2, .int (nI 0)), (0, .ref a), (1, .int x)]) hx hb dJ7_fill_53178_1 rfl hl (by decide) rfl (fun ls hl => ?_)
  refine lv_aload_n hx hb dJ7_fill_53178_2 rfl (lv_at hl 1 rfl) ?_
  refine xalen (N := n) (t := 0) hx hb I (hN.get (k := 0) rfl) rfl rfl dJ7_fill_53178_3 ?_
  refine lv_istore_n (lv' := [(3, .int (nI n)), (2, .int (nI 0)), (0, .ref a), (1, .int x)]) hx hb dJ7_fill_53178_4 rfl hl (by decide) rfl (fun ls hl => ?_)
  have L5 : ∀ (n5 : Nat) (k5 : Nat), k5 + n5 = n → ∀ (H : Heap) (locs : List Loc) (hw : XW), XI lo D E hw s H → xNs ((a, .inl (E 0, n, .inl (xfil x f k5))) :: L0) h0 hw → va_S (xA lo) s.heap H locs → ∀ ls : Array Slot, lv_has ls 4 [(0, .ref a), (1, .int x), (2, .int (nI k5)), (3, .int (nI n))] → W p l e (headSpec wsJ7_fill_53178 ({ frames := 0, cells := 0, slots := 0, locals := 0 } : Room)).room s m ([.ref a, .int x] : List Value).toArray below meth c H locs 0 0 (MQ below (xQ lo D (fun v h' => v = none ∧ xNs ((a, .inl (E 0, n, .inl (xfil x f n))) :: L0) h0 h')) ([.ref a, .int x] : List Value).toArray s 0 0 (xA lo)) (F0 m 5 ls []) := by
    intro n5
    induction n5 with
    | zero =>
      intro k5 hkn H locs hw I hN hS ls hl
      have hkN : k5 = n := by omega
      refine lv_iload_n hx hb dJ7_fill_53178_5 rfl (lv_at hl 2 rfl) ?_
      refine lv_iload_n hx hb dJ7_fill_53178_6 rfl (lv_at hl 3 rfl) ?_
      refine lv_icmp_ge (tgt := 20) hx hb dJ7_fill_53178_7 (by decide) (fun c_7 => ?_) (fun c_7 => absurd (nI_le (Nat.le_of_eq hkN.symm) (by omega)) c_7)
      exact W.widen (Nat.le_of_ble_eq_true rfl) (Nat.le_of_ble_eq_true rfl) (xrvQ hx hb hr hlocks dJ7_fill_53178_20 I hS ⟨rfl, by rw [hkN] at hN; exact hN⟩)
    | succ n5 ih =>
      intro k5 hkn H locs hw I hN hS ls hl
      have hk : k5 < n := by omega
      refine lv_iload_n hx hb dJ7_fill_53178_5 rfl (lv_at hl 2 rfl) ?_
      refine lv_iload_n hx hb dJ7_fill_53178_6 rfl (lv_at hl 3 rfl) ?_
      refine lv_icmp_ge (tgt := 20) hx hb dJ7_fill_53178_7 (by decide) (fun c_7 => absurd c_7 (nI_ge hk hn)) (fun c_7 => ?_)
      refine lv_aload_n hx hb dJ7_fill_53178_10 rfl (lv_at hl 0 rfl) ?_
      refine lv_iload_n hx hb dJ7_fill_53178_11 rfl (lv_at hl 2 rfl) ?_
      refine lv_iload_n hx hb dJ7_fill_53178_12 rfl (lv_at hl 1 rfl) ?_
      refine xiastL (i := k5) (n := n) 0 hx hb I hS hN rfl hk hn dJ7_fill_53178_13 (fun H locs hw I hN hS => ?_)
      rw [xfil_s] at hN
      have hN : xNs ((a, .inl (E 0, n, .inl (xfil x f (k5 + 1)))) :: L0) h0 hw := hN
      refine lv_iinc (v := (nI (k5 + 1))) (lv' := [(2, .int (nI (k5 + 1))), (0, .ref a), (1, .int x), (3, .int (nI n))]) hx hb dJ7_fill_53178_14 hl (k := 2) rfl (nI_succ k5).symm (by decide) rfl (fun ls hl => ?_)
      refine lv_goto (tgt := 5) hx hb dJ7_fill_53178_17 (by decide) ?_
      exact ih (k5 + 1) (by omega) _ _ _ I hN hS ls (lv_sub hl [1, 2, 0, 3] rfl)
  have hN : xNs ((a, .inl (E 0, n, .inl (xfil x f 0))) :: L0) h0 h := by rw [xfil_0]; exact hN
  exact L5 n 0 (by omega) _ _ _ I hN hS ls (lv_sub hl [2, 3, 1, 0] rfl)

set_option maxHeartbeats 4000000 in
set_option maxRecDepth 100000 in
theorem mX0_init (l : Launch) (lo : Nat) (D : va_G) (E : Nat → ClassId) (h h0 : XW) (L0 : List (Nat × va_E)) (q b1 b2 : Nat) (x1 x2 : Int32) (hN : xNs ((q, .inr (0, [.null, .int 0, .null, .int 0, .int 0, .int 0, .int 0, .int 0])) :: L0) h0 h) : Met l yX0_init wsX0_init ({ frames := 1, cells := 0, slots := 0, locals := 28 } : Room) (xP lo D E h [.ref q, .ref b1, .int x1, .int x2, .ref b2]) (xQ lo D (fun v h' => v = none ∧ xNs ((q, .inr (0, [.ref b1, .int x1, .ref b2, .int x2, .int 0, .int 0, .int 0, .int 0])) :: L0) h0 h')) 0 0 (xA lo) := by
  refine Met.ofW (cc := cX0_init) (maxL := 5) (ret := none) (by decide) rfl ?_
  intro p e s m args below meth c s₁ B hml hv
  obtain ⟨rfl, I⟩ := hv
  have hx := B.exec
  have hb := B.bytes
  have hr := B.returns
  have hts := atoms_spec (ws := wsX0_init) B.pre
  have hown : s.vm.findClass RX0 = some m.cls := findClass_of_methodNamed B.named
  have hlocks := B.notSynchronized
  have hl := lv_entry ([.ref q, .ref b1, .int x1, .int x2, .ref b2] : List Value) (n := 5) (Nat.le_of_ble_eq_true rfl)
  rw [lg_entry_eq]
  generalize (lg_sl ([.ref q, .ref b1, .int x1, .int x2, .ref b2] : List Value) ++ List.replicate (5 - (lg_sl ([.ref q, .ref b1, .int x1, .int x2, .ref b2] : List Value)).length) Slot.unset).toArray = ls at hl ⊢
  have hl : lv_has ls 5 [(0, .ref q), (1, .ref b1), (2, .int x1), (3, .int x2), (4, .ref b2)] := hl
  have hin0 : ∀ w ∈ u_ws RX0 TX0 8, w ∈ wsX0_init := fun _ h => List.mem_cons_of_mem _ (List.mem_append_right _ (h))
  have hmi : meth.name = "<init>" := (name_of_methodNamed B.named B.method).1
  have hS : va_S (xA lo) s.heap s.heap [] := va_S.rf
  refine lv_aload_n hx hb dX0_init_0 rfl (lv_at hl 0 rfl) ?_
  refine xoi hx hb hts hown (List.mem_of_getElem? (i := 1) rfl) (List.mem_of_getElem? (i := 2) rfl) (List.mem_of_getElem? (i := 3) rfl) (hl.1.trans hml.symm) dX0_init_1 (Nat.le_of_ble_eq_true rfl) (Nat.le_of_ble_eq_true rfl) ?_
  refine lv_aload_n hx hb dX0_init_4 rfl (lv_at hl 0 rfl) ?_
  refine lv_aload_n hx hb dX0_init_5 rfl (lv_at hl 1 rfl) ?_
  refine xputFL 0 0 hx hb hts hin0 tyX0 tyX0_ok nmX0 hown I hS hN rfl rfl (by decide) (List.mem_of_getElem? (i := 4) rfl) rfl rfl hmi rfl rfl rfl rfl (Nat.le_of_ble_eq_true rfl) dX0_init_6 (fun H locs hw I hN hS => ?_)
  have hN : xNs ((q, .inr (0, [.ref b1, .int 0, .null, .int 0, .int 0, .int 0, .int 0, .int 0])) :: L0) h0 hw := hN
  refine lv_aload_n hx hb dX0_init_9 rfl (lv_at hl 0 rfl) ?_
  refine lv_iload_n hx hb dX0_init_10 rfl (lv_at hl 2 rfl) ?_
  refine xputFL 1 0 hx hb hts hin0 tyX0 tyX0_ok nmX0 hown I hS hN rfl rfl (by decide) (List.mem_of_getElem? (i := 5) rfl) rfl rfl hmi rfl rfl rfl rfl (Nat.le_of_ble_eq_true rfl) dX0_init_11 (fun H locs hw I hN hS => ?_)
  have hN : xNs ((q, .inr (0, [.ref b1, .int x1, .null, .int 0, .int 0, .int 0, .int 0, .int 0])) :: L0) h0 hw := hN
  refine lv_aload_n hx hb dX0_init_14 rfl (lv_at hl 0 rfl) ?_
  refine lv_iload_n hx hb dX0_init_15 rfl (lv_at hl 3 rfl) ?_
  refine xputL 3 0 hx hb hts hin0 tyX0 tyX0_ok nmX0 hown I hS hN rfl rfl (by decide) (List.mem_of_getElem? (i := 6) rfl) rfl rfl rfl rfl rfl (Nat.le_of_ble_eq_true rfl) dX0_init_16 (fun H locs hw I hN hS => ?_)
  have hN : xNs ((q, .inr (0, [.ref b1, .int x1, .null, .int x2, .int 0, .int 0, .int 0, .int 0])) :: L0) h0 hw := hN
  refine lv_aload_n hx hb dX0_init_19 rfl (lv_at hl 0 rfl) ?_
  refine lv_aload hx hb dX0_init_20 (lv_at hl 4 rfl) ?_
  refine xputFL 2 0 hx hb hts hin0 tyX0 tyX0_ok nmX0 hown I hS hN rfl rfl (by decide) (List.mem_of_getElem? (i := 7) rfl) rfl rfl hmi rfl rfl rfl rfl (Nat.le_of_ble_eq_true rfl) dX0_init_22 (fun H locs hw I hN hS => ?_)
  have hN : xNs ((q, .inr (0, [.ref b1, .int x1, .ref b2, .int x2, .int 0, .int 0, .int 0, .int 0])) :: L0) h0 hw := hN
  exact W.widen (Nat.le_of_ble_eq_true rfl) (Nat.le_of_ble_eq_true rfl) (xrvQ hx hb hr hlocks dX0_init_25 I hS ⟨rfl, hN⟩)

set_option maxHeartbeats 4000000 in
set_option maxRecDepth 100000 in
theorem mX1_init (l : Launch) (lo : Nat) (D : va_G) (E : Nat → ClassId) (h h0 : XW) (L0 : List (Nat × va_E)) (q b1 : Nat) (x1 : Int32) (hN : xNs ((q, .inr (1, [.null, .int 0, .int 0])) :: L0) h0 h) : Met l yX1_init wsX1_init ({ frames := 1, cells := 0, slots := 0, locals := 28 } : Room) (xP lo D E h [.ref q, .ref b1, .int x1]) (xQ lo D (fun v h' => v = none ∧ xNs ((q, .inr (1, [.ref b1, .int x1, .int (nI 2000)])) :: L0) h0 h')) 0 0 (xA lo) := by
  refine Met.ofW (cc := cX1_init) (maxL := 3) (ret := none) (by decide) rfl ?_
  intro p e s m args below meth c s₁ B hml hv
  obtain ⟨rfl, I⟩ := hv
  have hx := B.exec
  have hb := B.bytes
  have hr := B.returns
  have hts := atoms_spec (ws := wsX1_init) B.pre
  have hown : s.vm.findClass RX1 = some m.cls := findClass_of_methodNamed B.named
  have hlocks := B.notSynchronized
  have hl := lv_entry ([.ref q, .ref b1, .int x1] : List Value) (n := 3) (Nat.le_of_ble_eq_true rfl)
  rw [lg_entry_eq]
  generalize (lg_sl ([.ref q, .ref b1, .int x1] : List Value) ++ List.replicate (3 - (lg_sl ([.ref q, .ref b1, .int x1] : List Value)).length) Slot.unset).toArray = ls at hl ⊢
  have hl : lv_has ls 3 [(0, .ref q), (1, .ref b1), (2, .int x1)] := hl
  have hin1 : ∀ w ∈ u_ws RX1 TX1 3, w ∈ wsX1_init := fun _ h => List.mem_cons_of_mem _ (List.mem_append_right _ (h))
  have hmi : meth.name = "<init>" := (name_of_methodNamed B.named B.method).1
  have hS : va_S (xA lo) s.heap s.heap [] := va_S.rf
  refine lv_aload_n hx hb dX1_init_0 rfl (lv_at hl 0 rfl) ?_
  refine xoi hx hb hts hown (List.mem_of_getElem? (i := 1) rfl) (List.mem_of_getElem? (i := 2) rfl) (List.mem_of_getElem? (i := 3) rfl) (hl.1.trans hml.symm) dX1_init_1 (Nat.le_of_ble_eq_true rfl) (Nat.le_of_ble_eq_true rfl) ?_
  refine lv_aload_n hx hb dX1_init_4 rfl (lv_at hl 0 rfl) ?_
  refine lv_sipush (v := (nI 2000)) hx hb dX1_init_5 (by decide) ?_
  refine xputL 2 0 hx hb hts hin1 tyX1 tyX1_ok nmX1 hown I hS hN rfl rfl (by decide) (List.mem_of_getElem? (i := 4) rfl) rfl rfl rfl rfl rfl (Nat.le_of_ble_eq_true rfl) dX1_init_8 (fun H locs hw I hN hS => ?_)
  have hN : xNs ((q, .inr (1, [.null, .int 0, .int (nI 2000)])) :: L0) h0 hw := hN
  refine lv_aload_n hx hb dX1_init_11 rfl (lv_at hl 0 rfl) ?_
  refine lv_aload_n hx hb dX1_init_12 rfl (lv_at hl 1 rfl) ?_
  refine xputFL 0 0 hx hb hts hin1 tyX1 tyX1_ok nmX1 hown I hS hN rfl rfl (by decide) (List.mem_of_getElem? (i := 5) rfl) rfl rfl hmi rfl rfl rfl rfl (Nat.le_of_ble_eq_true rfl) dX1_init_13 (fun H locs hw I hN hS => ?_)
  have hN : xNs ((q, .inr (1, [.ref b1, .int 0, .int (nI 2000)])) :: L0) h0 hw := hN
  refine lv_aload_n hx hb dX1_init_16 rfl (lv_at hl 0 rfl) ?_
  refine lv_iload_n hx hb dX1_init_17 rfl (lv_at hl 2 rfl) ?_
  refine xputFL 1 0 hx hb hts hin1 tyX1 tyX1_ok nmX1 hown I hS hN rfl rfl (by decide) (List.mem_of_getElem? (i := 6) rfl) rfl rfl hmi rfl rfl rfl rfl (Nat.le_of_ble_eq_true rfl) dX1_init_18 (fun H locs hw I hN hS => ?_)
  have hN : xNs ((q, .inr (1, [.ref b1, .int x1, .int (nI 2000)])) :: L0) h0 hw := hN
  exact W.widen (Nat.le_of_ble_eq_true rfl) (Nat.le_of_ble_eq_true rfl) (xrvQ hx hb hr hlocks dX1_init_21 I hS ⟨rfl, hN⟩)

set_option maxHeartbeats 4000000 in
set_option maxRecDepth 100000 in
theorem mX2_init (l : Launch) (lo : Nat) (D : va_G) (E : Nat → ClassId) (h h0 : XW) (L0 : List (Nat × va_E)) (q : Nat) (x1 x2 : Int32) (hN : xNs ((q, .inr (2, [.int 0, .int 0, .int 0])) :: L0) h0 h) : Met l yX2_init wsX2_init ({ frames := 1, cells := 0, slots := 0, locals := 28 } : Room) (xP lo D E h [.ref q, .int x1, .int x2]) (xQ lo D (fun v h' => v = none ∧ xNs ((q, .inr (2, [.int x1, .int x2, .int 0])) :: L0) h0 h')) 0 0 (xA lo) := by
  refine Met.ofW (cc := cX2_init) (maxL := 3) (ret := none) (by decide) rfl ?_
  intro p e s m args below meth c s₁ B hml hv
  obtain ⟨rfl, I⟩ := hv
  have hx := B.exec
  have hb := B.bytes
  have hr := B.returns
  have hts := atoms_spec (ws := wsX2_init) B.pre
  have hown : s.vm.findClass RX2 = some m.cls := findClass_of_methodNamed B.named
  have hlocks := B.notSynchronized
  have hl := lv_entry ([.ref q, .int x1, .int x2] : List Value) (n := 3) (Nat.le_of_ble_eq_true rfl)
  rw [lg_entry_eq]
  generalize (lg_sl ([.ref q, .int x1, .int x2] : List Value) ++ List.replicate (3 - (lg_sl ([.ref q, .int x1, .int x2] : List Value)).length) Slot.unset).toArray = ls at hl ⊢
  have hl : lv_has ls 3 [(0, .ref q), (1, .int x1), (2, .int x2)] := hl
  have hin2 : ∀ w ∈ u_ws RX2 TX2 3, w ∈ wsX2_init := fun _ h => List.mem_cons_of_mem _ (List.mem_append_right _ (h))
  have hmi : meth.name = "<init>" := (name_of_methodNamed B.named B.method).1
  have hS : va_S (xA lo) s.heap s.heap [] := va_S.rf
  refine lv_aload_n hx hb dX2_init_0 rfl (lv_at hl 0 rfl) ?_
  refine xoi hx hb hts hown (List.mem_of_getElem? (i := 1) rfl) (List.mem_of_getElem? (i := 2) rfl) (List.mem_of_getElem? (i := 3) rfl) (hl.1.trans hml.symm) dX2_init_1 (Nat.le_of_ble_eq_true rfl) (Nat.le_of_ble_eq_true rfl) ?_
  refine lv_aload_n hx hb dX2_init_4 rfl (lv_at hl 0 rfl) ?_
  refine lv_iload_n hx hb dX2_init_5 rfl (lv_at hl 1 rfl) ?_
  refine xputFL 0 0 hx hb hts hin2 tyX2 tyX2_ok nmX2 hown I hS hN rfl rfl (by decide) (List.mem_of_getElem? (i := 4) rfl) rfl rfl hmi rfl rfl rfl rfl (Nat.le_of_ble_eq_true rfl) dX2_init_6 (fun H locs hw I hN hS => ?_)
  have hN : xNs ((q, .inr (2, [.int x1, .int 0, .int 0])) :: L0) h0 hw := hN
  refine lv_aload_n hx hb dX2_init_9 rfl (lv_at hl 0 rfl) ?_
  refine lv_iload_n hx hb dX2_init_10 rfl (lv_at hl 2 rfl) ?_
  refine xputFL 1 0 hx hb hts hin2 tyX2 tyX2_ok nmX2 hown I hS hN rfl rfl (by decide) (List.mem_of_getElem? (i := 5) rfl) rfl rfl hmi rfl rfl rfl rfl (Nat.le_of_ble_eq_true rfl) dX2_init_11 (fun H locs hw I hN hS => ?_)
  have hN : xNs ((q, .inr (2, [.int x1, .int x2, .int 0])) :: L0) h0 hw := hN
  exact W.widen (Nat.le_of_ble_eq_true rfl) (Nat.le_of_ble_eq_true rfl) (xrvQ hx hb hr hlocks dX2_init_14 I hS ⟨rfl, hN⟩)

set_option maxHeartbeats 4000000 in
set_option maxRecDepth 100000 in
theorem mX5_init (l : Launch) (lo : Nat) (D : va_G) (E : Nat → ClassId) (h h0 : XW) (L0 : List (Nat × va_E)) (q b1 : Nat) (x1 : Int32) (hN : xNs ((q, .inr (5, [.null, .int 0, .null, .long 0])) :: L0) h0 h) : Met l yX5_init wsX5_init ({ frames := 1, cells := 0, slots := 0, locals := 28 } : Room) (xP lo D E h [.ref q, .ref b1, .int x1]) (xQ lo D (fun v h' => v = none ∧ xNs ((q, .inr (5, [.ref b1, .int x1, .null, .long 0])) :: L0) h0 h')) 0 0 (xA lo) := by
  refine Met.ofW (cc := cX5_init) (maxL := 3) (ret := none) (by decide) rfl ?_
  intro p e s m args below meth c s₁ B hml hv
  obtain ⟨rfl, I⟩ := hv
  have hx := B.exec
  have hb := B.bytes
  have hr := B.returns
  have hts := atoms_spec (ws := wsX5_init) B.pre
  have hown : s.vm.findClass RX5 = some m.cls := findClass_of_methodNamed B.named
  have hlocks := B.notSynchronized
  have hl := lv_entry ([.ref q, .ref b1, .int x1] : List Value) (n := 3) (Nat.le_of_ble_eq_true rfl)
  rw [lg_entry_eq]
  generalize (lg_sl ([.ref q, .ref b1, .int x1] : List Value) ++ List.replicate (3 - (lg_sl ([.ref q, .ref b1, .int x1] : List Value)).length) Slot.unset).toArray = ls at hl ⊢
  have hl : lv_has ls 3 [(0, .ref q), (1, .ref b1), (2, .int x1)] := hl
  have hin5 : ∀ w ∈ u_ws RX5 TX5 4, w ∈ wsX5_init := fun _ h => List.mem_cons_of_mem _ (List.mem_append_right _ (h))
  have hmi : meth.name = "<init>" := (name_of_methodNamed B.named B.method).1
  have hS : va_S (xA lo) s.heap s.heap [] := va_S.rf
  refine lv_aload_n hx hb dX5_init_0 rfl (lv_at hl 0 rfl) ?_
  refine xoi hx hb hts hown (List.mem_of_getElem? (i := 1) rfl) (List.mem_of_getElem? (i := 2) rfl) (List.mem_of_getElem? (i := 3) rfl) (hl.1.trans hml.symm) dX5_init_1 (Nat.le_of_ble_eq_true rfl) (Nat.le_of_ble_eq_true rfl) ?_
  refine lv_aload_n hx hb dX5_init_4 rfl (lv_at hl 0 rfl) ?_
  refine lv_aload_n hx hb dX5_init_5 rfl (lv_at hl 1 rfl) ?_
  refine xputFL 0 0 hx hb hts hin5 tyX5 tyX5_ok nmX5 hown I hS hN rfl rfl (by decide) (List.mem_of_getElem? (i := 4) rfl) rfl rfl hmi rfl rfl rfl rfl (Nat.le_of_ble_eq_true rfl) dX5_init_6 (fun H locs hw I hN hS => ?_)
  have hN : xNs ((q, .inr (5, [.ref b1, .int 0, .null, .long 0])) :: L0) h0 hw := hN
  refine lv_aload_n hx hb dX5_init_9 rfl (lv_at hl 0 rfl) ?_
  refine lv_iload_n hx hb dX5_init_10 rfl (lv_at hl 2 rfl) ?_
  refine xputFL 1 0 hx hb hts hin5 tyX5 tyX5_ok nmX5 hown I hS hN rfl rfl (by decide) (List.mem_of_getElem? (i := 5) rfl) rfl rfl hmi rfl rfl rfl rfl (Nat.le_of_ble_eq_true rfl) dX5_init_11 (fun H locs hw I hN hS => ?_)
  have hN : xNs ((q, .inr (5, [.ref b1, .int x1, .null, .long 0])) :: L0) h0 hw := hN
  exact W.widen (Nat.le_of_ble_eq_true rfl) (Nat.le_of_ble_eq_true rfl) (xrvQ hx hb hr hlocks dX5_init_14 I hS ⟨rfl, hN⟩)

set_option maxHeartbeats 4000000 in
set_option maxRecDepth 100000 in
theorem mX3_init (l : Launch) (lo : Nat) (D : va_G) (E : Nat → ClassId) (h h0 : XW) (L0 : List (Nat × va_E)) (q : Nat) (hN : xNs ((q, .inr (3, [.null, .null, .null, .long 0, .int 0])) :: L0) h0 h) : Met l yX3_init wsX3_init ({ frames := 1, cells := 3, slots := 60, locals := 28 } : Room) (xP lo D E h [.ref q]) (xQ lo D (fun v h' => v = none ∧ ∃ a1 a2 a3 : Nat, xNs ((a3, .inl (E 1, 20, .inr (.inl (fun _ => 0)))) :: (a2, .inl (E 2, 20, .inl (fun _ => 0))) :: (a1, .inl (E 0, 20, .inl (xfil (nI 100) (fun _ => 0) 20))) :: (q, .inr (3, [.ref a1, .ref a2, .ref a3, .long 0, .int (-1)])) :: L0) h0 h')) 3 60 (xA lo) := by
  refine Met.ofW (cc := cX3_init) (maxL := 1) (ret := none) (by decide) rfl ?_
  intro p e s m args below meth c s₁ B hml hv
  obtain ⟨rfl, I⟩ := hv
  have hx := B.exec
  have hb := B.bytes
  have hr := B.returns
  have hts := atoms_spec (ws := wsX3_init) B.pre
  have hown : s.vm.findClass RX3 = some m.cls := findClass_of_methodNamed B.named
  have hlocks := B.notSynchronized
  have hl := lv_entry ([.ref q] : List Value) (n := 1) (Nat.le_of_ble_eq_true rfl)
  rw [lg_entry_eq]
  generalize (lg_sl ([.ref q] : List Value) ++ List.replicate (1 - (lg_sl ([.ref q] : List Value)).length) Slot.unset).toArray = ls at hl ⊢
  have hl : lv_has ls 1 [(0, .ref q)] := hl
  have hin3 : ∀ w ∈ u_ws RX3 TX3 5, w ∈ wsX3_init := fun _ h => List.mem_cons_of_mem _ (List.mem_append_right _ (h))
  have hmi : meth.name = "<init>" := (name_of_methodNamed B.named B.method).1
  have hS : va_S (xA lo) s.heap s.heap [] := va_S.rf
  refine lv_aload_n hx hb dX3_init_0 rfl (lv_at hl 0 rfl) ?_
  refine xoi hx hb hts hown (List.mem_of_getElem? (i := 1) rfl) (List.mem_of_getElem? (i := 2) rfl) (List.mem_of_getElem? (i := 3) rfl) (hl.1.trans hml.symm) dX3_init_1 (Nat.le_of_ble_eq_true rfl) (Nat.le_of_ble_eq_true rfl) ?_
  refine lv_aload_n hx hb dX3_init_4 rfl (lv_at hl 0 rfl) ?_
  refine lv_bipush (v := (nI 20)) hx hb dX3_init_5 (by decide) ?_
  refine xnewaN (a0 := .inl (0, 0, .inl (fun _ => 0))) (N := 20) (t := 0) (ty := .int) (x := (20, .inl (fun _ => 0))) hx hb hts (List.mem_of_getElem? (i := 4) rfl) rfl I hN hS rfl (fun C z => by cases z) (fun _ => rfl) (by decide) (by decide) (Nat.le_of_ble_eq_true rfl) (Nat.le_of_ble_eq_true rfl) dX3_init_7 (fun a7 H hw I hN hS => ?_)
  have hN : xNs ((a7, .inl (E 0, 20, .inl (fun _ => 0))) :: (q, .inr (3, [.null, .null, .null, .long 0, .int 0])) :: L0) h0 hw := hN
  refine xputFL 0 1 hx hb hts hin3 tyX3 tyX3_ok nmX3 hown I hS hN rfl rfl (by decide) (List.mem_of_getElem? (i := 5) rfl) rfl rfl hmi rfl rfl rfl rfl (Nat.le_of_ble_eq_true rfl) dX3_init_9 (fun H locs hw I hN hS => ?_)
  have hN : xNs ((a7, .inl (E 0, 20, .inl (fun _ => 0))) :: (q, .inr (3, [.ref a7, .null, .null, .long 0, .int 0])) :: L0) h0 hw := hN
  refine lv_aload_n hx hb dX3_init_12 rfl (lv_at hl 0 rfl) ?_
  refine lv_bipush (v := (nI 20)) hx hb dX3_init_13 (by decide) ?_
  refine xnewaN (a0 := .inl (0, 0, .inl (fun _ => 0))) (N := 20) (t := 2) (ty := .boolean) (x := (20, .inl (fun _ => 0))) hx hb hts (List.mem_of_getElem? (i := 6) rfl) rfl I hN hS rfl (fun C z => by cases z) (fun _ => rfl) (by decide) (by decide) (Nat.le_of_ble_eq_true rfl) (Nat.le_of_ble_eq_true rfl) dX3_init_15 (fun a15 H hw I hN hS => ?_)
  have hN : xNs ((a15, .inl (E 2, 20, .inl (fun _ => 0))) :: (a7, .inl (E 0, 20, .inl (fun _ => 0))) :: (q, .inr (3, [.ref a7, .null, .null, .long 0, .int 0])) :: L0) h0 hw := hN
  refine xputFL 1 2 hx hb hts hin3 tyX3 tyX3_ok nmX3 hown I hS hN rfl rfl (by decide) (List.mem_of_getElem? (i := 7) rfl) rfl rfl hmi rfl rfl rfl rfl (Nat.le_of_ble_eq_true rfl) dX3_init_17 (fun H locs hw I hN hS => ?_)
  have hN : xNs ((a15, .inl (E 2, 20, .inl (fun _ => 0))) :: (a7, .inl (E 0, 20, .inl (fun _ => 0))) :: (q, .inr (3, [.ref a7, .ref a15, .null, .long 0, .int 0])) :: L0) h0 hw := hN
  refine lv_aload_n hx hb dX3_init_20 rfl (lv_at hl 0 rfl) ?_
  refine lv_bipush (v := (nI 20)) hx hb dX3_init_21 (by decide) ?_
  refine xnewaN (a0 := .inl (0, 0, .inl (fun _ => 0))) (N := 20) (t := 1) (ty := .long) (x := (20, .inr (.inl (fun _ => 0)))) hx hb hts (List.mem_of_getElem? (i := 8) rfl) rfl I hN hS rfl (fun C z => by cases z) (fun _ => rfl) (by decide) (by decide) (Nat.le_of_ble_eq_true rfl) (Nat.le_of_ble_eq_true rfl) dX3_init_23 (fun a23 H hw I hN hS => ?_)
  have hN : xNs ((a23, .inl (E 1, 20, .inr (.inl (fun _ => 0)))) :: (a15, .inl (E 2, 20, .inl (fun _ => 0))) :: (a7, .inl (E 0, 20, .inl (fun _ => 0))) :: (q, .inr (3, [.ref a7, .ref a15, .null, .long 0, .int 0])) :: L0) h0 hw := hN
  refine xputFL 2 3 hx hb hts hin3 tyX3 tyX3_ok nmX3 hown I hS hN rfl rfl (by decide) (List.mem_of_getElem? (i := 9) rfl) rfl rfl hmi rfl rfl rfl rfl (Nat.le_of_ble_eq_true rfl) dX3_init_25 (fun H locs hw I hN hS => ?_)
  have hN : xNs ((a23, .inl (E 1, 20, .inr (.inl (fun _ => 0)))) :: (a15, .inl (E 2, 20, .inl (fun _ => 0))) :: (a7, .inl (E 0, 20, .inl (fun _ => 0))) :: (q, .inr (3, [.ref a7, .ref a15, .ref a23, .long 0, .int 0])) :: L0) h0 hw := hN
  refine lv_aload_n hx hb dX3_init_28 rfl (lv_at hl 0 rfl) ?_
  refine lv_iconst (v := (-1)) hx hb dX3_init_29 (by decide) ?_
  refine xputL 4 3 hx hb hts hin3 tyX3 tyX3_ok nmX3 hown I hS hN rfl rfl (by decide) (List.mem_of_getElem? (i := 10) rfl) rfl rfl rfl rfl rfl (Nat.le_of_ble_eq_true rfl) dX3_init_30 (fun H locs hw I hN hS => ?_)
  have hN : xNs ((a23, .inl (E 1, 20, .inr (.inl (fun _ => 0)))) :: (a15, .inl (E 2, 20, .inl (fun _ => 0))) :: (a7, .inl (E 0, 20, .inl (fun _ => 0))) :: (q, .inr (3, [.ref a7, .ref a15, .ref a23, .long 0, .int (-1)])) :: L0) h0 hw := hN
  refine lv_aload_n hx hb dX3_init_33 rfl (lv_at hl 0 rfl) ?_
  refine xget (C := RX3) (T := TX3) (N := 5) 0 hx hb hts hin3 hown I (hN.get (k := 3) rfl) rfl (by decide) (List.mem_of_getElem? (i := 5) rfl) rfl rfl dX3_init_34 ?_
  refine lv_bipush (v := (nI 100)) hx hb dX3_init_37 (by decide) ?_
  refine xcsQ (As := [.ref a7, .int (nI 100)]) (rest := []) ⟨hx, hb, hml, hown, hts⟩ (mJ7_fill_53178 l lo D E hw (xdel hw a7) [] a7 20 (fun _ => 0) (nI 100) (by decide) (xNs.solo (hN.get (k := 2) rfl))) (va_cwS 2 hts gX3_init_J7_fill_53178 rfl rfl rfl (by decide +kernel) ⟨Nat.le_of_ble_eq_true rfl, Nat.le_of_ble_eq_true rfl⟩) I hS rfl hl.1 rfl (Nat.le_of_ble_eq_true rfl) dX3_init_39 ⟨Nat.le_of_ble_eq_true rfl, Nat.le_of_ble_eq_true rfl⟩ (fun v9 hw9 H locs q9 I hS => ?_)
  obtain ⟨rfl, q9⟩ := q9
  have hN := hN.set (k := 2) (.inl (E 0, 20, .inl (xfil (nI 100) (fun _ => 0) 20))) rfl
  rw [← xNs.solo' q9] at hN
  generalize hw9 = hw at I hN
  have hN : xNs ((a23, .inl (E 1, 20, .inr (.inl (fun _ => 0)))) :: (a15, .inl (E 2, 20, .inl (fun _ => 0))) :: (a7, .inl (E 0, 20, .inl (xfil (nI 100) (fun _ => 0) 20))) :: (q, .inr (3, [.ref a7, .ref a15, .ref a23, .long 0, .int (-1)])) :: L0) h0 hw := hN
  refine W.eq (g2 := F0 m 42 ls []) rfl ?_
  exact W.widen (Nat.le_of_ble_eq_true rfl) (Nat.le_of_ble_eq_true rfl) (xrvQ hx hb hr hlocks dX3_init_42 I hS ⟨rfl, a7, a15, a23, hN⟩)

set_option maxHeartbeats 4000000 in
set_option maxRecDepth 100000 in
theorem mX4_init (l : Launch) (lo : Nat) (D : va_G) (E : Nat → ClassId) (h h0 : XW) (L0 : List (Nat × va_E)) (q : Nat) (hN : xNs ((q, .inr (4, [.null, .null])) :: L0) h0 h) : Met l yX4_init wsX4_init ({ frames := 1, cells := 2, slots := 160, locals := 28 } : Room) (xP lo D E h [.ref q]) (xQ lo D (fun v h' => v = none ∧ ∃ a1 a2 : Nat, xNs ((a2, .inl (E 0, 80, .inl (xfil (-1) (fun _ => 0) 80))) :: (a1, .inl (E 0, 80, .inl (fun _ => 0))) :: (q, .inr (4, [.ref a1, .ref a2])) :: L0) h0 h')) 2 160 (xA lo) := by
  refine Met.ofW (cc := cX4_init) (maxL := 1) (ret := none) (by decide) rfl ?_
  intro p e s m args below meth c s₁ B hml hv
  obtain ⟨rfl, I⟩ := hv
  have hx := B.exec
  have hb := B.bytes
  have hr := B.returns
  have hts := atoms_spec (ws := wsX4_init) B.pre
  have hown : s.vm.findClass RX4 = some m.cls := findClass_of_methodNamed B.named
  have hlocks := B.notSynchronized
  have hl := lv_entry ([.ref q] : List Value) (n := 1) (Nat.le_of_ble_eq_true rfl)
  rw [lg_entry_eq]
  generalize (lg_sl ([.ref q] : List Value) ++ List.replicate (1 - (lg_sl ([.ref q] : List Value)).length) Slot.unset).toArray = ls at hl ⊢
  have hl : lv_has ls 1 [(0, .ref q)] := hl
  have hin4 : ∀ w ∈ u_ws RX4 TX4 2, w ∈ wsX4_init := fun _ h => List.mem_cons_of_mem _ (List.mem_append_right _ (h))
  have hmi : meth.name = "<init>" := (name_of_methodNamed B.named B.method).1
  have hS : va_S (xA lo) s.heap s.heap [] := va_S.rf
  refine lv_aload_n hx hb dX4_init_0 rfl (lv_at hl 0 rfl) ?_
  refine xoi hx hb hts hown (List.mem_of_getElem? (i := 1) rfl) (List.mem_of_getElem? (i := 2) rfl) (List.mem_of_getElem? (i := 3) rfl) (hl.1.trans hml.symm) dX4_init_1 (Nat.le_of_ble_eq_true rfl) (Nat.le_of_ble_eq_true rfl) ?_
  refine lv_aload_n hx hb dX4_init_4 rfl (lv_at hl 0 rfl) ?_
  refine lv_bipush (v := (nI 80)) hx hb dX4_init_5 (by decide) ?_
  refine xnewaN (a0 := .inl (0, 0, .inl (fun _ => 0))) (N := 80) (t := 0) (ty := .int) (x := (80, .inl (fun _ => 0))) hx hb hts (List.mem_of_getElem? (i := 4) rfl) rfl I hN hS rfl (fun C z => by cases z) (fun _ => rfl) (by decide) (by decide) (Nat.le_of_ble_eq_true rfl) (Nat.le_of_ble_eq_true rfl) dX4_init_7 (fun a7 H hw I hN hS => ?_)
  have hN : xNs ((a7, .inl (E 0, 80, .inl (fun _ => 0))) :: (q, .inr (4, [.null, .null])) :: L0) h0 hw := hN
  refine xputFL 0 1 hx hb hts hin4 tyX4 tyX4_ok nmX4 hown I hS hN rfl rfl (by decide) (List.mem_of_getElem? (i := 5) rfl) rfl rfl hmi rfl rfl rfl rfl (Nat.le_of_ble_eq_true rfl) dX4_init_9 (fun H locs hw I hN hS => ?_)
  have hN : xNs ((a7, .inl (E 0, 80, .inl (fun _ => 0))) :: (q, .inr (4, [.ref a7, .null])) :: L0) h0 hw := hN
  refine lv_aload_n hx hb dX4_init_12 rfl (lv_at hl 0 rfl) ?_
  refine lv_bipush (v := (nI 80)) hx hb dX4_init_13 (by decide) ?_
  refine xnewaN (a0 := .inl (0, 0, .inl (fun _ => 0))) (N := 80) (t := 0) (ty := .int) (x := (80, .inl (fun _ => 0))) hx hb hts (List.mem_of_getElem? (i := 4) rfl) rfl I hN hS rfl (fun C z => by cases z) (fun _ => rfl) (by decide) (by decide) (Nat.le_of_ble_eq_true rfl) (Nat.le_of_ble_eq_true rfl) dX4_init_15 (fun a15 H hw I hN hS => ?_)
  have hN : xNs ((a15, .inl (E 0, 80, .inl (fun _ => 0))) :: (a7, .inl (E 0, 80, .inl (fun _ => 0))) :: (q, .inr (4, [.ref a7, .null])) :: L0) h0 hw := hN
  refine xputFL 1 2 hx hb hts hin4 tyX4 tyX4_ok nmX4 hown I hS hN rfl rfl (by decide) (List.mem_of_getElem? (i := 6) rfl) rfl rfl hmi rfl rfl rfl rfl (Nat.le_of_ble_eq_true rfl) dX4_init_17 (fun H locs hw I hN hS => ?_)
  have hN : xNs ((a15, .inl (E 0, 80, .inl (fun _ => 0))) :: (a7, .inl (E 0, 80, .inl (fun _ => 0))) :: (q, .inr (4, [.ref a7, .ref a15])) :: L0) h0 hw := hN
  refine lv_aload_n hx hb dX4_init_20 rfl (lv_at hl 0 rfl) ?_
  refine xget (C := RX4) (T := TX4) (N := 2) 1 hx hb hts hin4 hown I (hN.get (k := 2) rfl) rfl (by decide) (List.mem_of_getElem? (i := 6) rfl) rfl rfl dX4_init_21 ?_
  refine lv_iconst (v := (-1)) hx hb dX4_init_24 (by decide) ?_
  refine xcsQ (As := [.ref a15, .int (-1)]) (rest := []) ⟨hx, hb, hml, hown, hts⟩ (mJ7_fill_53178 l lo D E hw (xdel hw a15) [] a15 80 (fun _ => 0) (-1) (by decide) (xNs.solo (hN.get (k := 0) rfl))) (va_cwS 2 hts gX4_init_J7_fill_53178 rfl rfl rfl (by decide +kernel) ⟨Nat.le_of_ble_eq_true rfl, Nat.le_of_ble_eq_true rfl⟩) I hS rfl hl.1 rfl (Nat.le_of_ble_eq_true rfl) dX4_init_25 ⟨Nat.le_of_ble_eq_true rfl, Nat.le_of_ble_eq_true rfl⟩ (fun v9 hw9 H locs q9 I hS => ?_)
  obtain ⟨rfl, q9⟩ := q9
  have hN := hN.set (k := 0) (.inl (E 0, 80, .inl (xfil (-1) (fun _ => 0) 80))) rfl
  rw [← xNs.solo' q9] at hN
  generalize hw9 = hw at I hN
  have hN : xNs ((a15, .inl (E 0, 80, .inl (xfil (-1) (fun _ => 0) 80))) :: (a7, .inl (E 0, 80, .inl (fun _ => 0))) :: (q, .inr (4, [.ref a7, .ref a15])) :: L0) h0 hw := hN
  refine W.eq (g2 := F0 m 28 ls []) rfl ?_
  exact W.widen (Nat.le_of_ble_eq_true rfl) (Nat.le_of_ble_eq_true rfl) (xrvQ hx hb hr hlocks dX4_init_28 I hS ⟨rfl, a7, a15, hN⟩)

set_option maxHeartbeats 4000000 in
set_option maxRecDepth 100000 in
theorem mX6_init (l : Launch) (lo : Nat) (D : va_G) (E : Nat → ClassId) (h h0 : XW) (L0 : List (Nat × va_E)) (q : Nat) (hN : xNs (L0) h0 h) : Met l yX6_init wsX6_init ({ frames := 1, cells := 0, slots := 0, locals := 28 } : Room) (xP lo D E h [.ref q]) (xQ lo D (fun v h' => v = none ∧ h' = h)) 0 0 (xA lo) := by
  refine Met.ofW (cc := cX6_init) (maxL := 1) (ret := none) (by decide) rfl ?_
  intro p e s m args below meth c s₁ B hml hv
  obtain ⟨rfl, I⟩ := hv
  have hx := B.exec
  have hb := B.bytes
  have hr := B.returns
  have hts := atoms_spec (ws := wsX6_init) B.pre
  have hown : s.vm.findClass RX6 = some m.cls := findClass_of_methodNamed B.named
  have hlocks := B.notSynchronized
  have hl := lv_entry ([.ref q] : List Value) (n := 1) (Nat.le_of_ble_eq_true rfl)
  rw [lg_entry_eq]
  generalize (lg_sl ([.ref q] : List Value) ++ List.replicate (1 - (lg_sl ([.ref q] : List Value)).length) Slot.unset).toArray = ls at hl ⊢
  have hl : lv_has ls 1 [(0, .ref q)] := hl
  have hmi : meth.name = "<init>" := (name_of_methodNamed B.named B.method).1
  have hS : va_S (xA lo) s.heap s.heap [] := va_S.rf
  refine lv_aload_n hx hb dX6_init_0 rfl (lv_at hl 0 rfl) ?_
  refine xoi hx hb hts hown (List.mem_of_getElem? (i := 1) rfl) (List.mem_of_getElem? (i := 2) rfl) (List.mem_of_getElem? (i := 3) rfl) (hl.1.trans hml.symm) dX6_init_1 (Nat.le_of_ble_eq_true rfl) (Nat.le_of_ble_eq_true rfl) ?_
  exact W.widen (Nat.le_of_ble_eq_true rfl) (Nat.le_of_ble_eq_true rfl) (xrvQ hx hb hr hlocks dX6_init_4 I hS ⟨rfl, rfl⟩)
