set_option maxHeartbeats 4000000 in
set_option maxRecDepth 100000 in
theorem law_turns {p : Program} {l : Launch} {e : Env} {s : State} {m : MethodId} {below : List Frame} {meth : Method} {c : Code} {b L : Nat} {xs : Nat → Int32} {D : va_G} {E : Nat → ClassId} {ar : Nat → Nat} (F : LF p l s m c b L xs) (hr : meth.sig.returnType = ret) (hlocks : meth.locks = false) :
    ∀ (n t a : Nat), t + n = 44 → a = 5 + 2 * t → ∀ (σ : LT) (τ : CT) (q12 : Int64) (n14 n15 n16 n17 : Nat), J t σ τ q12 n14 n15 n16 n17 → ∀ (H : Heap) (locs : List Loc) (h : XW) (ad : Nat → Nat → Nat) (fa : Nat → Nat → Option Nat) (ls : Array Slot) (cells slots : Nat), cells ≤ 500 + 950 * t → slots ≤ 5000 + 9500 * t → XI s.heap.size D E h s H → RA E σ ar h → RC E (lPr ar) τ ad fa h → va_S (xA s.heap.size) s.heap H locs → LW σ → CW τ → lv_has ls 39 (lLS b ad ar (σ, τ, q12, n14, n15, n16, n17) a t) →
      W p l e room_1 s m #[Value.ref b] below meth c H locs cells slots (lw_Z below #[Value.ref b] s) (F0 m 277 ls []) := by
  obtain ⟨hx, hb, hml, hown, hts, hX, hbl, hCa, hlst, hLL⟩ := id F
  intro n
  induction n with
  | zero =>
    intro t a ht ha σ τ q12 n14 n15 n16 n17 hJ H locs h ad fa ls cells slots hc1 hc2 I hL hR hS hW hC hl
    have hk : t = 44 := by omega
    refine lv_iload hx hb dL_law_277 (lv_at hl 18 rfl) ?_
    refine lv_bipush (v := nI 44) hx hb dL_law_279 (by decide) ?_
    refine lv_icmp_ge (tgt := 2870) hx hb dL_law_281 (by decide) (fun _ => ?_) (fun q => absurd (nI_le (Nat.le_of_eq hk.symm) (by omega)) q)
    refine lv_iconst (v := 1) hx hb dL_law_2870 (by decide) ?_
    refine va_forget (fun q hq => hS.2.2 q hq) ?_
    refine W.widen (k := 600086) (n := 7301442) (by omega) (by omega) ?_
    exact lw_ret hx hb hr hlocks dL_law_2871
  | succ n ih =>
    intro t a ht ha σ τ q12 n14 n15 n16 n17 hJ H locs h ad fa ls cells slots hc1 hc2 I hL hR hS hW hC hl
    have hb14 : n14 ≤ 12 := hJ.1.2.2.2.2.2.2.2.1
    have hb15 : n15 ≤ 10 := hJ.1.2.2.2.2.2.2.2.2.1
    have hb16 : n16 ≤ 10 := Nat.le_trans hJ.1.2.2.2.2.2.2.2.2.2.1 hb15
    have hb17 : n17 < 300 := hJ.1.2.2.2.2.2.2.2.2.2.2.1
    refine lv_iload hx hb dL_law_277 (lv_at hl 18 rfl) ?_
    refine lv_bipush (v := nI 44) hx hb dL_law_279 (by decide) ?_
    refine lv_icmp_ge (tgt := 2870) hx hb dL_law_281 (by decide) (fun q => absurd q (nI_ge (show t < 44 by omega) (by omega))) (fun _ => ?_)
    obtain ⟨σ1, τ1, q1, m14, m15, m16, m17, hG, hJ1⟩ := a_act hJ hW hC (show t < 44 by omega) xs L a
    refine sSD F I hL hR hS hW hC hb14 hb15 hb16 hb17 (by omega) (by omega) (K := cells + 250) (Ks := slots + 2500) (Nat.le_refl _) (Nat.le_refl _) (by omega) (by omega) hl (fun H1 locs1 h1 ad1 fa1 ls1 I1 hL1 hR1 hS1 hW1 hC1 hl1 => ?_) hG
    have hd14 : m14 ≤ 12 := hJ1.1.2.2.2.2.2.2.2.1
    have hd15 : m15 ≤ 10 := hJ1.1.2.2.2.2.2.2.2.2.1
    have hd16 : m16 ≤ 10 := Nat.le_trans hJ1.1.2.2.2.2.2.2.2.2.2.1 hd15
    have hd17 : m17 < 300 := hJ1.1.2.2.2.2.2.2.2.2.2.2.1
    refine sSO F I1 hL1 hR1 hS1 hW1 hC1 hd14 hd15 hd16 hd17 (by omega) (by omega) (K := cells + 950) (Ks := slots + 9500) (by omega) (by omega) (by omega) (by omega) hl1 (fun H2 locs2 h2 ad2 fa2 ls2 I2 hL2 hR2 hS2 hW2 hC2 hl2 => ?_) (obs_ok hJ1 hW1 hC1)
    refine lv_iinc (v := (nI (t + 1))) (lv' := [(19, .int (nI (t + 1))), (0, .ref b), (1, .ref (ad2 0 0)), (2, .ref (ar 0)), (3, .ref (ar 1)), (4, .ref (ar 2)), (5, .ref (ar 3)), (6, .ref (ar 4)), (7, .ref (ar 5)), (8, .ref (ar 6)), (9, .ref (ar 8)), (10, .ref (ar 7)), (11, .ref (ar 9)), (12, .long q1), (14, .int (nI m14)), (15, .int (nI m15)), (16, .int (nI m16)), (17, .int (nI m17)), (18, .int (nI (a + 2)))]) hx hb dL_law_2864 hl2 (k := 18) rfl (nI_succ t).symm (by decide) rfl (fun ls3 hl3 => ?_)
    refine lv_goto (tgt := 277) hx hb dL_law_2867 (by decide) ?_
    exact ih (t + 1) (a + 2) (by omega) (by omega) σ1 τ1 q1 m14 m15 m16 m17 hJ1 H2 locs2 h2 ad2 fa2 ls3 (cells + 950) (slots + 9500) (by omega) (by omega) I2 hL2 hR2 hS2 hW2 hC2 (lv_sub hl3 [1, 2, 3, 4, 5, 6, 7, 8, 9, 10, 11, 12, 13, 14, 15, 16, 17, 18, 0] rfl)
set_option maxHeartbeats 4000000 in
set_option maxRecDepth 100000 in
theorem whole_start {p : Program} {e : Env} {s : State} {m : MethodId} {below : List Frame} {meth : Method} {c : Code} (l : Launch) (hflags : l.flags = flags0) {b L : Nat} {xs : Nat → Int32} (hL : L ≤ 260) (C0 : lw_At p s m meth c b L xs) : W p l e room_1 s m #[Value.ref b] below meth c s.heap [] 0 0 (lw_Z below #[Value.ref b] s) (entryFrame m ([Value.ref b] : List Value).toArray 39) := by
  obtain ⟨hx, hb, hr, hml, hown0, hts0, hX, hbl, hlocks, hgv⟩ := C0
  have hts : ∀ w ∈ wsL_law, w.before #[Value.ref b] s = true := fun w hw => hts0 w (wsL_law_in w hw)
  have hown : s.vm.findClass RL = some m.cls := hown0
  have hlst : l.stackTraces = false := by unfold Launch.stackTraces; rw [hflags]; decide
  have hCb : XCb s := s_XCb hts0
  have hAw : XAw s := s_XAw hts0
  obtain ⟨D, E, hK⟩ := s_K hts0 hts
  have I : XI s.heap.size D E (fun _ => none) s s.heap := ⟨Nat.le_refl _, fun a e he => (by cases he), fun a e he => (by cases he), hK, s_XT hts0 hgv⟩
  have hS : va_S (xA s.heap.size) s.heap s.heap [] := va_S.rf
  have hl := lv_entry ([.ref b] : List Value) (n := 39) (Nat.le_of_ble_eq_true rfl)
  rw [lg_entry_eq]
  generalize (lg_sl ([.ref b] : List Value) ++ List.replicate (39 - (lg_sl ([.ref b] : List Value)).length) Slot.unset).toArray = ls at hl ⊢
  have hl : lv_has ls 39 [(0, .ref b)] := hl
  refine xnewL (C := RX7) (T := TX7) (N := 14) (ci := 7) (fs := [.null, .null, .null, .null, .null, .null, .null, .int 0, .int 0, .int 0, .int 0, .int 0, .int 0, .long 0]) (h0 := fun _ => none) hx hb hts inlX7 tyX7 tyX7_ok hown (List.mem_of_getElem? (i := 0) rfl) (List.mem_of_getElem? (i := 1) rfl) (List.mem_of_getElem? (i := 2) rfl) I xNs.nil hS rfl (by decide) (Nat.le_of_ble_eq_true rfl) (Nat.le_of_ble_eq_true rfl) dL_law_0 (fun q7 H h1 I hN hS => ?_)
  refine lv_dup hx hb dL_law_3 rfl ?_
  refine xciA (As := []) (rest := [.ref q7]) ⟨hx, hb, hml, hown, hts⟩ (mX7_init l s.heap.size D E h1 _ [] q7 hN) (cwI 0 hts gL_law_X7_init rfl rfl rfl (hts _ (List.mem_of_getElem? (i := 2) rfl)) (hts _ (List.mem_of_getElem? (i := 14) rfl)) (hts _ (List.mem_of_getElem? (i := 15) rfl)) rfl (by decide +kernel) ⟨Nat.le_of_ble_eq_true rfl, Nat.le_of_ble_eq_true rfl⟩) I hAw hS rfl hl.1 rfl (Nat.le_of_ble_eq_true rfl) dL_law_4 ⟨Nat.le_of_ble_eq_true rfl, Nat.le_of_ble_eq_true rfl⟩ (fun v9 h2 H locs q9 I hS => ?_)
  obtain ⟨rfl, a7, a16, a25, a34, a43, a52, o59, b1, b2, ys, hys, hN7⟩ := q9
  have hR0 := xRC0 (E := E) (Pr := fun _ => False) hys hN7 (fun b hb => absurd hb id)
  refine W.eq (g2 := F0 m 7 ls [.ref q7]) rfl ?_
  refine lv_astore_n (lv' := [(1, .ref q7), (0, .ref b)]) hx hb dL_law_7 rfl hl (by decide) rfl (fun ls hl => ?_)
  refine lv_bipush (v := nI 40) hx hb dL_law_8 (by decide) ?_
  refine xnewaN (a0 := .inl (0, (40, .inl (fun _ => 0)))) (t := 0) (ty := .int) (N := 40) (x := (40, .inl (fun _ => 0))) (h0 := h2) hx hb hts (List.mem_of_getElem? (i := 3) rfl) rfl I xNs.nil hS rfl (fun C z => by cases z) (fun cA => rfl) (by decide) (by decide) (Nat.le_of_ble_eq_true rfl) (Nat.le_of_ble_eq_true rfl) dL_law_10 (fun p0 H hh0 I hN hS => ?_)
  refine lv_astore_n (lv' := [(2, .ref p0), (1, .ref q7), (0, .ref b)]) hx hb dL_law_12 rfl hl (by decide) rfl (fun ls hl => ?_)
  refine lv_bipush (v := nI 16) hx hb dL_law_13 (by decide) ?_
  refine xnewaN (a0 := .inl (0, (16, .inl (fun _ => 0)))) (t := 0) (ty := .int) (N := 16) (x := (16, .inl (fun _ => 0))) (h0 := h2) hx hb hts (List.mem_of_getElem? (i := 3) rfl) rfl I hN hS rfl (fun C z => by cases z) (fun cA => rfl) (by decide) (by decide) (Nat.le_of_ble_eq_true rfl) (Nat.le_of_ble_eq_true rfl) dL_law_15 (fun p1 H hh1 I hN hS => ?_)
  refine lv_astore_n (lv' := [(3, .ref p1), (2, .ref p0), (1, .ref q7), (0, .ref b)]) hx hb dL_law_17 rfl hl (by decide) rfl (fun ls hl => ?_)
  refine lv_bipush (v := nI 9) hx hb dL_law_18 (by decide) ?_
  refine xnewaN (a0 := .inl (0, (9, .inl (fun _ => 0)))) (t := 0) (ty := .int) (N := 9) (x := (9, .inl (fun _ => 0))) (h0 := h2) hx hb hts (List.mem_of_getElem? (i := 3) rfl) rfl I hN hS rfl (fun C z => by cases z) (fun cA => rfl) (by decide) (by decide) (Nat.le_of_ble_eq_true rfl) (Nat.le_of_ble_eq_true rfl) dL_law_20 (fun p2 H hh2 I hN hS => ?_)
  refine lv_astore (lv' := [(4, .ref p2), (3, .ref p1), (2, .ref p0), (1, .ref q7), (0, .ref b)]) hx hb dL_law_22 hl (by decide) rfl (fun ls hl => ?_)
  refine lv_bipush (v := nI 64) hx hb dL_law_24 (by decide) ?_
  refine xnewaN (a0 := .inl (0, (64, .inl (fun _ => 0)))) (t := 0) (ty := .int) (N := 64) (x := (64, .inl (fun _ => 0))) (h0 := h2) hx hb hts (List.mem_of_getElem? (i := 3) rfl) rfl I hN hS rfl (fun C z => by cases z) (fun cA => rfl) (by decide) (by decide) (Nat.le_of_ble_eq_true rfl) (Nat.le_of_ble_eq_true rfl) dL_law_26 (fun p3 H hh3 I hN hS => ?_)
  refine lv_astore (lv' := [(5, .ref p3), (4, .ref p2), (3, .ref p1), (2, .ref p0), (1, .ref q7), (0, .ref b)]) hx hb dL_law_28 hl (by decide) rfl (fun ls hl => ?_)
  refine lv_bipush (v := nI 24) hx hb dL_law_30 (by decide) ?_
  refine xnewaN (a0 := .inl (0, (24, .inl (fun _ => 0)))) (t := 0) (ty := .int) (N := 24) (x := (24, .inl (fun _ => 0))) (h0 := h2) hx hb hts (List.mem_of_getElem? (i := 3) rfl) rfl I hN hS rfl (fun C z => by cases z) (fun cA => rfl) (by decide) (by decide) (Nat.le_of_ble_eq_true rfl) (Nat.le_of_ble_eq_true rfl) dL_law_32 (fun p4 H hh4 I hN hS => ?_)
  refine lv_astore (lv' := [(6, .ref p4), (5, .ref p3), (4, .ref p2), (3, .ref p1), (2, .ref p0), (1, .ref q7), (0, .ref b)]) hx hb dL_law_34 hl (by decide) rfl (fun ls hl => ?_)
  refine lv_bipush (v := nI 9) hx hb dL_law_36 (by decide) ?_
  refine xnewaN (a0 := .inl (0, (9, .inl (fun _ => 0)))) (t := 0) (ty := .int) (N := 9) (x := (9, .inl (fun _ => 0))) (h0 := h2) hx hb hts (List.mem_of_getElem? (i := 3) rfl) rfl I hN hS rfl (fun C z => by cases z) (fun cA => rfl) (by decide) (by decide) (Nat.le_of_ble_eq_true rfl) (Nat.le_of_ble_eq_true rfl) dL_law_38 (fun p5 H hh5 I hN hS => ?_)
  refine lv_astore (lv' := [(7, .ref p5), (6, .ref p4), (5, .ref p3), (4, .ref p2), (3, .ref p1), (2, .ref p0), (1, .ref q7), (0, .ref b)]) hx hb dL_law_40 hl (by decide) rfl (fun ls hl => ?_)
  refine lv_bipush (v := nI 6) hx hb dL_law_42 (by decide) ?_
  refine xnewaN (a0 := .inl (0, (6, .inl (fun _ => 0)))) (t := 0) (ty := .int) (N := 6) (x := (6, .inl (fun _ => 0))) (h0 := h2) hx hb hts (List.mem_of_getElem? (i := 3) rfl) rfl I hN hS rfl (fun C z => by cases z) (fun cA => rfl) (by decide) (by decide) (Nat.le_of_ble_eq_true rfl) (Nat.le_of_ble_eq_true rfl) dL_law_44 (fun p6 H hh6 I hN hS => ?_)
  refine lv_astore (lv' := [(8, .ref p6), (7, .ref p5), (6, .ref p4), (5, .ref p3), (4, .ref p2), (3, .ref p1), (2, .ref p0), (1, .ref q7), (0, .ref b)]) hx hb dL_law_46 hl (by decide) rfl (fun ls hl => ?_)
  refine lv_bipush (v := nI 9) hx hb dL_law_48 (by decide) ?_
  refine xnewaN (a0 := .inl (0, (9, .inr (.inl (fun _ => 0))))) (t := 1) (ty := .long) (N := 9) (x := (9, .inr (.inl (fun _ => 0)))) (h0 := h2) hx hb hts (List.mem_of_getElem? (i := 4) rfl) rfl I hN hS rfl (fun C z => by cases z) (fun cA => rfl) (by decide) (by decide) (Nat.le_of_ble_eq_true rfl) (Nat.le_of_ble_eq_true rfl) dL_law_50 (fun p8 H hh7 I hN hS => ?_)
  refine lv_astore (lv' := [(9, .ref p8), (8, .ref p6), (7, .ref p5), (6, .ref p4), (5, .ref p3), (4, .ref p2), (3, .ref p1), (2, .ref p0), (1, .ref q7), (0, .ref b)]) hx hb dL_law_52 hl (by decide) rfl (fun ls hl => ?_)
  refine lv_bipush (v := nI 16) hx hb dL_law_54 (by decide) ?_
  refine xnewaN (a0 := .inl (0, (16, .inl (fun _ => 0)))) (t := 0) (ty := .int) (N := 16) (x := (16, .inl (fun _ => 0))) (h0 := h2) hx hb hts (List.mem_of_getElem? (i := 3) rfl) rfl I hN hS rfl (fun C z => by cases z) (fun cA => rfl) (by decide) (by decide) (Nat.le_of_ble_eq_true rfl) (Nat.le_of_ble_eq_true rfl) dL_law_56 (fun p7 H hh8 I hN hS => ?_)
  refine lv_astore (lv' := [(10, .ref p7), (9, .ref p8), (8, .ref p6), (7, .ref p5), (6, .ref p4), (5, .ref p3), (4, .ref p2), (3, .ref p1), (2, .ref p0), (1, .ref q7), (0, .ref b)]) hx hb dL_law_58 hl (by decide) rfl (fun ls hl => ?_)
  refine lv_iconst (v := nI 3) hx hb dL_law_60 (by decide) ?_
  refine xnewaN (a0 := .inl (0, (3, .inr (.inl (fun _ => 0))))) (t := 1) (ty := .long) (N := 3) (x := (3, .inr (.inl (fun _ => 0)))) (h0 := h2) hx hb hts (List.mem_of_getElem? (i := 4) rfl) rfl I hN hS rfl (fun C z => by cases z) (fun cA => rfl) (by decide) (by decide) (Nat.le_of_ble_eq_true rfl) (Nat.le_of_ble_eq_true rfl) dL_law_61 (fun p9 H hh9 I hN hS => ?_)
  refine lv_astore (lv' := [(11, .ref p9), (10, .ref p7), (9, .ref p8), (8, .ref p6), (7, .ref p5), (6, .ref p4), (5, .ref p3), (4, .ref p2), (3, .ref p1), (2, .ref p0), (1, .ref q7), (0, .ref b)]) hx hb dL_law_63 hl (by decide) rfl (fun ls hl => ?_)
  obtain ⟨hRA, hP⟩ := xRA0 hN
  have hRC := hR0.more (Pr1 := lPr (arL p0 p1 p2 p3 p4 p5 p6 p7 p8 p9)) (fun b hb => hN.old hb) (fun b hb => (hP b hb).1) (fun b hb => Or.inr (hP b hb).2)
  have F : LF p l s m c b L xs := ⟨hx, hb, hml, hown, hts, hX, hbl, hCb, hlst, hL⟩
  obtain ⟨σ1, τ1, q1, m14, m15, m16, m17, hG, hJ1⟩ := i_all xs L
  refine sSI F I hRA hRC hS LWS0 CW0 (K := 400) (Ks := 4500) (Nat.le_of_ble_eq_true rfl) (Nat.le_of_ble_eq_true rfl) (Nat.le_of_ble_eq_true rfl) (Nat.le_of_ble_eq_true rfl) (lv_sub hl [11, 10, 9, 8, 7, 6, 5, 4, 3, 2, 1, 0] rfl) (fun H1 locs1 h1 ad1 fa1 ls1 I1 hL1 hR1 hS1 hW1 hC1 hl1 => ?_) hG
  exact law_turns F hr hlocks 44 0 5 rfl rfl σ1 τ1 q1 m14 m15 m16 m17 hJ1 H1 locs1 h1 ad1 fa1 ls1 400 4500 (by omega) (by omega) I1 hL1 hR1 hS1 hW1 hC1 hl1
