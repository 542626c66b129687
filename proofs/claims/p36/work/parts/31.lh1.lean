def fL_low (v : Int32) (n1 : Nat) : Int32 := ((v &&& (nI 2147483647)) - (v &&& (nI 2147483647)) / (nI n1) * (nI n1))
set_option maxHeartbeats 4000000 in
set_option maxRecDepth 100000 in
theorem mL_low (l : Launch) (lo : Nat) (D : va_G) (E : Nat → ClassId) (h : XW) (v : Int32) (n1 : Nat) (hn0 : 0 < n1) (hn : n1 < 2 ^ 31) : Met l yL_low wsL_low ({ frames := 0, cells := 0, slots := 0, locals := 0 } : Room) (xP lo D E h [.int v, .int (nI n1)]) (xR (some (.int (nI (lowN v n1))))) 0 0 (fun _ => False) := by
  obtain ⟨G, hG⟩ : ∃ G, nI (lowN v n1) = G := ⟨_, rfl⟩
  rw [hG]
  rw [← lowN_e v hn0 hn] at hG
  refine Met.ofW (cc := cL_low) (maxL := 2) (ret := (some .int)) (by decide) rfl ?_
  intro p e s m args below meth c s₁ B hml hv
  obtain ⟨rfl, I⟩ := hv
  have hx := B.exec
  have hb := B.bytes
  have hr := B.returns
  have hts := atoms_spec (ws := wsL_low) B.pre
  have hown : s.vm.findClass RL = some m.cls := findClass_of_methodNamed B.named
  have hlocks := B.notSynchronized
  have hl := lv_entry ([.int v, .int (nI n1)] : List Value) (n := 2) (Nat.le_of_ble_eq_true rfl)
  rw [lg_entry_eq]
  generalize (lg_sl ([.int v, .int (nI n1)] : List Value) ++ List.replicate (2 - (lg_sl ([.int v, .int (nI n1)] : List Value)).length) Slot.unset).toArray = ls at hl ⊢
  have hl : lv_has ls 2 [(0, .int v), (1, .int (nI n1))] := hl
  refine lv_iload_n hx hb dL_low_0 rfl (lv_at hl 0 rfl) ?_
  refine lv_ldc (v := (nI 2147483647)) hx hb hown (hts _ (List.mem_of_getElem? (i := 1) rfl)) dL_low_1 ?_
  refine lv_iand hx hb dL_low_3 ?_
  refine lv_iload_n hx hb dL_low_4 rfl (lv_at hl 1 rfl) ?_
  refine lv_irem hx hb dL_low_5 (nI_ne0 hn0 hn) ?_
  exact xriR hx hb hr hlocks dL_low_6 hG

def fL_cell (xs : Nat → Int32) (L : Nat) (k1 : Nat) : Int32 := (if L ≤ k1 then (nI (1000308321 * (k1 + 1) + 751363495)) else (xs k1))
set_option maxHeartbeats 4000000 in
set_option maxRecDepth 100000 in
theorem mL_cell (l : Launch) (lo : Nat) (D : va_G) (E : Nat → ClassId) (h : XW) (b L : Nat) (xs : Nat → Int32) (k1 : Nat) (hk : k1 < 1000000) (hLb : L < 1000000) : Met l yL_cell wsL_cell ({ frames := 0, cells := 0, slots := 0, locals := 0 } : Room) (xPS b L xs [.ref b, .int (nI k1)]) (xR (some (.int (fL_cell xs L k1)))) 0 0 (fun _ => False) := by
  obtain ⟨G, hG⟩ : ∃ G, fL_cell xs L k1 = G := ⟨_, rfl⟩
  rw [hG]
  unfold fL_cell at hG
  refine Met.ofW (cc := cL_cell) (maxL := 2) (ret := (some .int)) (by decide) rfl ?_
  intro p e s m args below meth c s₁ B hml hv
  obtain ⟨rfl, hX, hbl⟩ := hv
  have hx := B.exec
  have hb := B.bytes
  have hr := B.returns
  have hts := atoms_spec (ws := wsL_cell) B.pre
  have hown : s.vm.findClass RL = some m.cls := findClass_of_methodNamed B.named
  have hlocks := B.notSynchronized
  have hl := lv_entry ([.ref b, .int (nI k1)] : List Value) (n := 2) (Nat.le_of_ble_eq_true rfl)
  rw [lg_entry_eq]
  generalize (lg_sl ([.ref b, .int (nI k1)] : List Value) ++ List.replicate (2 - (lg_sl ([.ref b, .int (nI k1)] : List Value)).length) Slot.unset).toArray = ls at hl ⊢
  have hl : lv_has ls 2 [(0, .ref b), (1, .int (nI k1))] := hl
  refine lv_iload_n hx hb dL_cell_0 rfl (lv_at hl 1 rfl) ?_
  refine lv_aload_n hx hb dL_cell_1 rfl (lv_at hl 0 rfl) ?_
  refine va_slen (A := fun _ => False) hx hb hX hbl id va_S.rf dL_cell_2 ?_
  refine xtop (y := .int (nI L)) rfl ?_
  refine lv_icmp_ge (tgt := 12) hx hb dL_cell_3 (by decide) (fun c_3 => ?_) (fun c_3 => ?_)
  · skip
    have c_3 : L ≤ k1 := (nI_leI (a := L) (b := k1) (by omega) (by omega)).mp c_3
    rw [if_pos c_3] at hG
    refine lv_ldc (v := (nI 1000308321)) hx hb hown (hts _ (List.mem_of_getElem? (i := 1) rfl)) dL_cell_12 ?_
    refine lv_iload_n hx hb dL_cell_14 rfl (lv_at hl 1 rfl) ?_
    refine lv_iconst (v := (nI 1)) hx hb dL_cell_15 (by decide) ?_
    refine lv_iadd hx hb dL_cell_16 ?_
    refine xtop (y := .int (nI (k1 + 1))) (congrArg Value.int (nI_add _ _)) ?_
    refine lv_imul hx hb dL_cell_17 ?_
    refine xtop (y := .int (nI (1000308321 * (k1 + 1)))) (congrArg Value.int (pk_mul _ _)) ?_
    refine lv_ldc (v := (nI 751363495)) hx hb hown (hts _ (List.mem_of_getElem? (i := 2) rfl)) dL_cell_18 ?_
    refine lv_iadd hx hb dL_cell_20 ?_
    refine xtop (y := .int (nI (1000308321 * (k1 + 1) + 751363495))) (congrArg Value.int (nI_add _ _)) ?_
    exact xriR hx hb hr hlocks dL_cell_21 hG
  · skip
    have c_3 : ¬ L ≤ k1 := fun q => c_3 ((nI_leI (a := L) (b := k1) (by omega) (by omega)).mpr q)
    rw [if_neg c_3] at hG
    refine lv_aload_n hx hb dL_cell_6 rfl (lv_at hl 0 rfl) ?_
    refine lv_iload_n hx hb dL_cell_7 rfl (lv_at hl 1 rfl) ?_
    refine va_sld (A := fun _ => False) hx hb hX hbl id va_S.rf (vp_in_nI (by omega) (by omega)) dL_cell_8 ?_
    refine xtop (y := .int (xs k1)) (by rw [nI_clamp (by omega)]) ?_
    refine lv_goto (tgt := 21) hx hb dL_cell_9 (by decide) ?_
    exact xriR hx hb hr hlocks dL_cell_21 hG

def fL_weight_S26 (σ : LT) (n1 : Nat) (m1 : Nat) (y1 : Nat) (k10 : Nat) (k26 : Nat) (a26_6 : Int64) : (Int64) := (if lK σ 1 (lK σ 0 (3 * k26)) = m1 then (if k10 < lK σ 0 (3 * k26 + 1) then a26_6 else (if lK σ 0 (3 * k26 + 2) ≤ k10 then a26_6 else (a26_6 + (lN (lK σ 1 (8 + (lK σ 0 (3 * k26)))))))) else a26_6)
def fL_weight_L26 (σ : LT) (n1 : Nat) (m1 : Nat) (y1 : Nat) (k10 : Nat) : Nat → Nat → Int64 → (Int64)
  | 0, k26, a26_6 => a26_6
  | n26 + 1, k26, a26_6 => lseq (fL_weight_S26 σ n1 m1 y1 k10 k26 a26_6) (fun q => fL_weight_L26 σ n1 m1 y1 k10 n26 (k26 + 1) q)
def fL_weight_S10 (σ : LT) (n1 : Nat) (m1 : Nat) (y1 : Nat) (k10 : Nat) (a10_6 : Int64) : (Int64) := (fL_weight_L26 σ n1 m1 y1 k10 n1 0 a10_6)
def fL_weight_L10 (σ : LT) (n1 : Nat) (m1 : Nat) (y1 : Nat) : Nat → Nat → Int64 → Int64
  | 0, k10, a10_6 => ((a10_6 * (lN (lK σ 2 (3 * m1 + y1)))) / (100 : Int64))
  | n10 + 1, k10, a10_6 => lseq (fL_weight_S10 σ n1 m1 y1 k10 a10_6) (fun q => fL_weight_L10 σ n1 m1 y1 n10 (k10 + 1) q)
def fL_weight (σ : LT) (n1 : Nat) (m1 : Nat) (y1 : Nat) : Int64 := (fL_weight_L10 σ n1 m1 y1 ((100 * y1 + 100) - (100 * y1)) (100 * y1) (0 : Int64))
set_option maxHeartbeats 4000000 in
set_option maxRecDepth 100000 in
theorem mL_weight (l : Launch) (lo : Nat) (D : va_G) (E : Nat → ClassId) (h : XW) (σ : LT) (ar : Nat → Nat) (hL : RA E σ ar h) (hW : LW σ) (n1 : Nat) (m1 : Nat) (y1 : Nat) (hn : n1 ≤ 12) (hm : m1 < 3) (hy : y1 < 3) : Met l yL_weight wsL_weight ({ frames := 0, cells := 0, slots := 0, locals := 0 } : Room) (xP lo D E h [.ref (ar 0), .int (nI n1), .ref (ar 1), .ref (ar 2), .int (nI m1), .int (nI y1)]) (xR (some (.long (fL_weight σ n1 m1 y1)))) 0 0 (fun _ => False) := by
  obtain ⟨G, hG⟩ : ∃ G, fL_weight σ n1 m1 y1 = G := ⟨_, rfl⟩
  rw [hG]
  unfold fL_weight at hG
  refine Met.ofW (cc := cL_weight) (maxL := 10) (ret := (some .long)) (by decide) rfl ?_
  intro p e s m args below meth c s₁ B hml hv
  obtain ⟨rfl, I⟩ := hv
  have hx := B.exec
  have hb := B.bytes
  have hr := B.returns
  have hts := atoms_spec (ws := wsL_weight) B.pre
  have hown : s.vm.findClass RL = some m.cls := findClass_of_methodNamed B.named
  have hlocks := B.notSynchronized
  have hl := lv_entry ([.ref (ar 0), .int (nI n1), .ref (ar 1), .ref (ar 2), .int (nI m1), .int (nI y1)] : List Value) (n := 10) (Nat.le_of_ble_eq_true rfl)
  rw [lg_entry_eq]
  generalize (lg_sl ([.ref (ar 0), .int (nI n1), .ref (ar 1), .ref (ar 2), .int (nI m1), .int (nI y1)] : List Value) ++ List.replicate (10 - (lg_sl ([.ref (ar 0), .int (nI n1), .ref (ar 1), .ref (ar 2), .int (nI m1), .int (nI y1)] : List Value)).length) Slot.unset).toArray = ls at hl ⊢
  have hl : lv_has ls 10 [(0, .ref (ar 0)), (1, .int (nI n1)), (2, .ref (ar 1)), (3, .ref (ar 2)), (4, .int (nI m1)), (5, .int (nI y1))] := hl
  refine lv_lconst (v := (0 : Int64)) hx hb dL_weight_0 rfl ?_
  refine lv_lstore (lv' := [(6, .long (0 : Int64)), (0, .ref (ar 0)), (1, .int (nI n1)), (2, .ref (ar 1)), (3, .ref (ar 2)), (4, .int (nI m1)), (5, .int (nI y1))]) hx hb dL_weight_1 hl (by decide) rfl (fun ls hl => ?_)
  refine lv_bipush (v := (nI 100)) hx hb dL_weight_3 (by decide) ?_
  refine lv_iload hx hb dL_weight_5 (lv_at hl 6 rfl) ?_
  refine lv_imul hx hb dL_weight_7 ?_
  refine xtop (y := .int (nI (100 * y1))) (congrArg Value.int (pk_mul _ _)) ?_
  refine lv_istore (lv' := [(8, .int (nI (100 * y1))), (6, .long (0 : Int64)), (0, .ref (ar 0)), (1, .int (nI n1)), (2, .ref (ar 1)), (3, .ref (ar 2)), (4, .int (nI m1)), (5, .int (nI y1))]) hx hb dL_weight_8 hl (by decide) rfl (fun ls hl => ?_)
  have L10 : ∀ (n10 : Nat) (k10 : Nat) (a10_6 : Int64), k10 + n10 = (100 * y1 + 100) → fL_weight_L10 σ n1 m1 y1 n10 k10 a10_6 = G → ∀ ls : Array Slot, lv_has ls 10 [(0, .ref (ar 0)), (1, .int (nI n1)), (2, .ref (ar 1)), (3, .ref (ar 2)), (4, .int (nI m1)), (5, .int (nI y1)), (6, .long a10_6), (8, .int (nI k10))] → W p l e (headSpec wsL_weight ({ frames := 0, cells := 0, slots := 0, locals := 0 } : Room)).room s m ([.ref (ar 0), .int (nI n1), .ref (ar 1), .ref (ar 2), .int (nI m1), .int (nI y1)] : List Value).toArray below meth c s.heap [] 0 0 (MQ below (xR (some (.long G))) ([.ref (ar 0), .int (nI n1), .ref (ar 1), .ref (ar 2), .int (nI m1), .int (nI y1)] : List Value).toArray s 0 0 (fun _ => False)) (F0 m 10 ls []) := by
    intro n10
    induction n10 with
    | zero =>
      intro k10 a10_6 hkn hG ls hl
      have hkN : k10 = (100 * y1 + 100) := by omega
      have hG : ((a10_6 * (lN (lK σ 2 (3 * m1 + y1)))) / (100 : Int64)) = G := hG
      refine lv_iload hx hb dL_weight_10 (lv_at hl 7 rfl) ?_
      refine lv_bipush (v := (nI 100)) hx hb dL_weight_12 (by decide) ?_
      refine lv_iload hx hb dL_weight_14 (lv_at hl 5 rfl) ?_
      refine lv_imul hx hb dL_weight_16 ?_
      refine xtop (y := .int (nI (100 * y1))) (congrArg Value.int (pk_mul _ _)) ?_
      refine lv_bipush (v := (nI 100)) hx hb dL_weight_17 (by decide) ?_
      refine lv_iadd hx hb dL_weight_19 ?_
      refine xtop (y := .int (nI (100 * y1 + 100))) (congrArg Value.int (nI_add _ _)) ?_
      refine lv_icmp_ge (tgt := 100) hx hb dL_weight_20 (by decide) (fun _ => ?_) (fun q => absurd (nI_le (Nat.le_of_eq hkN.symm) (by omega)) q)
      refine lv_lload hx hb dL_weight_100 (lv_at hl 6 rfl) ?_
      refine lv_aload_n hx hb dL_weight_102 rfl (lv_at hl 3 rfl) ?_
      refine lv_iconst (v := (nI 3)) hx hb dL_weight_103 (by decide) ?_
      refine lv_iload hx hb dL_weight_104 (lv_at hl 4 rfl) ?_
      refine lv_imul hx hb dL_weight_106 ?_
      refine xtop (y := .int (nI (3 * m1))) (congrArg Value.int (pk_mul _ _)) ?_
      refine lv_iload hx hb dL_weight_107 (lv_at hl 5 rfl) ?_
      refine lv_iadd hx hb dL_weight_109 ?_
      refine xtop (y := .int (nI (3 * m1 + y1))) (congrArg Value.int (nI_add _ _)) ?_
      refine xiald (i := (3 * m1 + y1)) (n := 9) hx hb I (hL.1 2 9 (by decide)) (by omega) (by decide) dL_weight_110 ?_
      have g110 : lK σ 2 (3 * m1 + y1) < 1073741824 := hW.2.2.2.2.2.1 2 (3 * m1 + y1)
      refine lv_i2l (v := (lN (lK σ 2 (3 * m1 + y1)))) hx hb dL_weight_111 (nI_l (by omega)) ?_
      refine lv_lmul hx hb dL_weight_112 ?_
      refine lv_ldc2 (v := (100 : Int64)) hx hb hown (hts _ (List.mem_of_getElem? (i := 1) rfl)) dL_weight_113 ?_
      refine lv_ldiv hx hb dL_weight_116 (by decide) ?_
      exact xrlR hx hb hr hlocks dL_weight_117 hG
    | succ n10 ih10 =>
      intro k10 a10_6 hkn hG ls hl
      have hk : k10 < (100 * y1 + 100) := by omega
      have hG : lseq ((fL_weight_L26 σ n1 m1 y1 k10 n1 0 a10_6)) (fun q => fL_weight_L10 σ n1 m1 y1 n10 (k10 + 1) q) = G := hG
      refine lv_iload hx hb dL_weight_10 (lv_at hl 7 rfl) ?_
      refine lv_bipush (v := (nI 100)) hx hb dL_weight_12 (by decide) ?_
      refine lv_iload hx hb dL_weight_14 (lv_at hl 5 rfl) ?_
      refine lv_imul hx hb dL_weight_16 ?_
      refine xtop (y := .int (nI (100 * y1))) (congrArg Value.int (pk_mul _ _)) ?_
      refine lv_bipush (v := (nI 100)) hx hb dL_weight_17 (by decide) ?_
      refine lv_iadd hx hb dL_weight_19 ?_
      refine xtop (y := .int (nI (100 * y1 + 100))) (congrArg Value.int (nI_add _ _)) ?_
      refine lv_icmp_ge (tgt := 100) hx hb dL_weight_20 (by decide) (fun q => absurd q (nI_ge hk (by omega))) (fun _ => ?_)
      refine lv_iconst (v := (nI 0)) hx hb dL_weight_23 (by decide) ?_
      refine lv_istore (lv' := [(9, .int (nI 0)), (0, .ref (ar 0)), (1, .int (nI n1)), (2, .ref (ar 1)), (3, .ref (ar 2)), (4, .int (nI m1)), (5, .int (nI y1)), (6, .long a10_6), (8, .int (nI k10))]) hx hb dL_weight_24 hl (by decide) rfl (fun ls hl => ?_)
      have L26 : ∀ (n26 : Nat) (k26 : Nat) (a26_6 : Int64), k26 + n26 = n1 → lseq (fL_weight_L26 σ n1 m1 y1 k10 n26 k26 a26_6) (fun q => fL_weight_L10 σ n1 m1 y1 n10 (k10 + 1) q) = G → ∀ ls : Array Slot, lv_has ls 10 [(0, .ref (ar 0)), (1, .int (nI n1)), (2, .ref (ar 1)), (3, .ref (ar 2)), (4, .int (nI m1)), (5, .int (nI y1)), (6, .long a26_6), (8, .int (nI k10)), (9, .int (nI k26))] → W p l e (headSpec wsL_weight ({ frames := 0, cells := 0, slots := 0, locals := 0 } : Room)).room s m ([.ref (ar 0), .int (nI n1), .ref (ar 1), .ref (ar 2), .int (nI m1), .int (nI y1)] : List Value).toArray below meth c s.heap [] 0 0 (MQ below (xR (some (.long G))) ([.ref (ar 0), .int (nI n1), .ref (ar 1), .ref (ar 2), .int (nI m1), .int (nI y1)] : List Value).toArray s 0 0 (fun _ => False)) (F0 m 26 ls []) := by
        intro n26
        induction n26 with
        | zero =>
          intro k26 a26_6 hkn hG ls hl
          have hkN : k26 = n1 := by omega
          have hG : lseq (a26_6) (fun q => fL_weight_L10 σ n1 m1 y1 n10 (k10 + 1) q) = G := hG
          refine lv_iload hx hb dL_weight_26 (lv_at hl 8 rfl) ?_
          refine lv_iload_n hx hb dL_weight_28 rfl (lv_at hl 1 rfl) ?_
          refine lv_icmp_ge (tgt := 94) hx hb dL_weight_29 (by decide) (fun _ => ?_) (fun q => absurd (nI_le (Nat.le_of_eq hkN.symm) (by omega)) q)
          refine lv_iinc (v := (nI (k10 + 1))) (lv' := [(8, .int (nI (k10 + 1))), (0, .ref (ar 0)), (1, .int (nI n1)), (2, .ref (ar 1)), (3, .ref (ar 2)), (4, .int (nI m1)), (5, .int (nI y1)), (6, .long a26_6), (9, .int (nI k26))]) hx hb dL_weight_94 hl (k := 7) rfl (nI_succ k10).symm (by decide) rfl (fun ls hl => ?_)
          refine lv_goto (tgt := 10) hx hb dL_weight_97 (by decide) ?_
          exact ih10 (k10 + 1) a26_6 (by first | omega | (simp only [lSI_K]; omega)) hG ls (lv_sub hl [1, 2, 3, 4, 5, 6, 7, 0] rfl)
        | succ n26 ih26 =>
          intro k26 a26_6 hkn hG ls hl
          have hk : k26 < n1 := by omega
          have hG : lseq (lseq ((if lK σ 1 (lK σ 0 (3 * k26)) = m1 then (if k10 < lK σ 0 (3 * k26 + 1) then a26_6 else (if lK σ 0 (3 * k26 + 2) ≤ k10 then a26_6 else (a26_6 + (lN (lK σ 1 (8 + (lK σ 0 (3 * k26)))))))) else a26_6)) (fun q => fL_weight_L26 σ n1 m1 y1 k10 n26 (k26 + 1) q)) (fun q => fL_weight_L10 σ n1 m1 y1 n10 (k10 + 1) q) = G := hG
          refine lv_iload hx hb dL_weight_26 (lv_at hl 8 rfl) ?_
          refine lv_iload_n hx hb dL_weight_28 rfl (lv_at hl 1 rfl) ?_
          refine lv_icmp_ge (tgt := 94) hx hb dL_weight_29 (by decide) (fun q => absurd q (nI_ge hk (by omega))) (fun _ => ?_)
          refine lv_aload_n hx hb dL_weight_32 rfl (lv_at hl 2 rfl) ?_
          refine lv_aload_n hx hb dL_weight_33 rfl (lv_at hl 0 rfl) ?_
          refine lv_iconst (v := (nI 3)) hx hb dL_weight_34 (by decide) ?_
          refine lv_iload hx hb dL_weight_35 (lv_at hl 8 rfl) ?_
          refine lv_imul hx hb dL_weight_37 ?_
          refine xtop (y := .int (nI (3 * k26))) (congrArg Value.int (pk_mul _ _)) ?_
          refine xiald (i := (3 * k26)) (n := 40) hx hb I (hL.1 0 40 (by decide)) (by omega) (by decide) dL_weight_38 ?_
          have g38 : lK σ 0 (3 * k26) < 1073741824 := hW.2.2.2.2.2.1 0 (3 * k26)
          have b38 : lK σ 0 (3 * k26) < 5 := hW.1 k26
          refine xiald (i := (lK σ 0 (3 * k26))) (n := 16) hx hb I (hL.1 1 16 (by decide)) (by omega) (by decide) dL_weight_39 ?_
          have g39 : lK σ 1 (lK σ 0 (3 * k26)) < 1073741824 := hW.2.2.2.2.2.1 1 (lK σ 0 (3 * k26))
          have b39 : lK σ 1 (lK σ 0 (3 * k26)) < 3 := hW.2.1 (lK σ 0 (3 * k26)) (by omega)
          refine lv_iload hx hb dL_weight_40 (lv_at hl 4 rfl) ?_
          refine lv_icmp_ne (tgt := 88) hx hb dL_weight_42 (by decide) (fun c_42 => ?_) (fun c_42 => ?_)
          · skip
            have c_42 : ¬ lK σ 1 (lK σ 0 (3 * k26)) = m1 := fun q => c_42 ((nI_eq (a := (lK σ 1 (lK σ 0 (3 * k26)))) (b := m1) (by omega) (by omega)).mpr q)
            rw [if_neg c_42] at hG
            refine lv_iinc (v := (nI (k26 + 1))) (lv' := [(9, .int (nI (k26 + 1))), (0, .ref (ar 0)), (1, .int (nI n1)), (2, .ref (ar 1)), (3, .ref (ar 2)), (4, .int (nI m1)), (5, .int (nI y1)), (6, .long a26_6), (8, .int (nI k10))]) hx hb dL_weight_88 hl (k := 8) rfl (nI_succ k26).symm (by decide) rfl (fun ls hl => ?_)
            refine lv_goto (tgt := 26) hx hb dL_weight_91 (by decide) ?_
            exact ih26 (k26 + 1) a26_6 (by first | omega | (simp only [lSI_K]; omega)) hG ls (lv_sub hl [1, 2, 3, 4, 5, 6, 7, 8, 0] rfl)
          · skip
            have c_42 : lK σ 1 (lK σ 0 (3 * k26)) = m1 := (nI_eq (a := (lK σ 1 (lK σ 0 (3 * k26)))) (b := m1) (by omega) (by omega)).mp c_42
            rw [if_pos c_42] at hG
            refine lv_iload hx hb dL_weight_45 (lv_at hl 7 rfl) ?_
            refine lv_aload_n hx hb dL_weight_47 rfl (lv_at hl 0 rfl) ?_
            refine lv_iconst (v := (nI 3)) hx hb dL_weight_48 (by decide) ?_
            refine lv_iload hx hb dL_weight_49 (lv_at hl 8 rfl) ?_
            refine lv_imul hx hb dL_weight_51 ?_
            refine xtop (y := .int (nI (3 * k26))) (congrArg Value.int (pk_mul _ _)) ?_
            refine lv_iconst (v := (nI 1)) hx hb dL_weight_52 (by decide) ?_
            refine lv_iadd hx hb dL_weight_53 ?_
            refine xtop (y := .int (nI (3 * k26 + 1))) (congrArg Value.int (nI_add _ _)) ?_
            refine xiald (i := (3 * k26 + 1)) (n := 40) hx hb I (hL.1 0 40 (by decide)) (by omega) (by decide) dL_weight_54 ?_
            have g54 : lK σ 0 (3 * k26 + 1) < 1073741824 := hW.2.2.2.2.2.1 0 (3 * k26 + 1)
            refine lv_icmp_lt (tgt := 88) hx hb dL_weight_55 (by decide) (fun c_55 => ?_) (fun c_55 => ?_)
            · skip
              have c_55 : k10 < lK σ 0 (3 * k26 + 1) := (nI_ltI (a := k10) (b := (lK σ 0 (3 * k26 + 1))) (by omega) (by omega)).mp c_55
              rw [if_pos c_55] at hG
              refine lv_iinc (v := (nI (k26 + 1))) (lv' := [(9, .int (nI (k26 + 1))), (0, .ref (ar 0)), (1, .int (nI n1)), (2, .ref (ar 1)), (3, .ref (ar 2)), (4, .int (nI m1)), (5, .int (nI y1)), (6, .long a26_6), (8, .int (nI k10))]) hx hb dL_weight_88 hl (k := 8) rfl (nI_succ k26).symm (by decide) rfl (fun ls hl => ?_)
              refine lv_goto (tgt := 26) hx hb dL_weight_91 (by decide) ?_
              exact ih26 (k26 + 1) a26_6 (by first | omega | (simp only [lSI_K]; omega)) hG ls (lv_sub hl [1, 2, 3, 4, 5, 6, 7, 8, 0] rfl)
            · skip
              have c_55 : ¬ k10 < lK σ 0 (3 * k26 + 1) := fun q => c_55 ((nI_ltI (a := k10) (b := (lK σ 0 (3 * k26 + 1))) (by omega) (by omega)).mpr q)
              rw [if_neg c_55] at hG
              refine lv_iload hx hb dL_weight_58 (lv_at hl 7 rfl) ?_
              refine lv_aload_n hx hb dL_weight_60 rfl (lv_at hl 0 rfl) ?_
              refine lv_iconst (v := (nI 3)) hx hb dL_weight_61 (by decide) ?_
              refine lv_iload hx hb dL_weight_62 (lv_at hl 8 rfl) ?_
              refine lv_imul hx hb dL_weight_64 ?_
              refine xtop (y := .int (nI (3 * k26))) (congrArg Value.int (pk_mul _ _)) ?_
              refine lv_iconst (v := (nI 2)) hx hb dL_weight_65 (by decide) ?_
              refine lv_iadd hx hb dL_weight_66 ?_
              refine xtop (y := .int (nI (3 * k26 + 2))) (congrArg Value.int (nI_add _ _)) ?_
              refine xiald (i := (3 * k26 + 2)) (n := 40) hx hb I (hL.1 0 40 (by decide)) (by omega) (by decide) dL_weight_67 ?_
              have g67 : lK σ 0 (3 * k26 + 2) < 1073741824 := hW.2.2.2.2.2.1 0 (3 * k26 + 2)
              refine lv_icmp_ge (tgt := 88) hx hb dL_weight_68 (by decide) (fun c_68 => ?_) (fun c_68 => ?_)
              · skip
                have c_68 : lK σ 0 (3 * k26 + 2) ≤ k10 := (nI_leI (a := (lK σ 0 (3 * k26 + 2))) (b := k10) (by omega) (by omega)).mp c_68
                rw [if_pos c_68] at hG
                refine lv_iinc (v := (nI (k26 + 1))) (lv' := [(9, .int (nI (k26 + 1))), (0, .ref (ar 0)), (1, .int (nI n1)), (2, .ref (ar 1)), (3, .ref (ar 2)), (4, .int (nI m1)), (5, .int (nI y1)), (6, .long a26_6), (8, .int (nI k10))]) hx hb dL_weight_88 hl (k := 8) rfl (nI_succ k26).symm (by decide) rfl (fun ls hl => ?_)
                refine lv_goto (tgt := 26) hx hb dL_weight_91 (by decide) ?_
                exact ih26 (k26 + 1) a26_6 (by first | omega | (simp only [lSI_K]; omega)) hG ls (lv_sub hl [1, 2, 3, 4, 5, 6, 7, 8, 0] rfl)
              · skip
                have c_68 : ¬ lK σ 0 (3 * k26 + 2) ≤ k10 := fun q => c_68 ((nI_leI (a := (lK σ 0 (3 * k26 + 2))) (b := k10) (by omega) (by omega)).mpr q)
                rw [if_neg c_68] at hG
                refine lv_lload hx hb dL_weight_71 (lv_at hl 6 rfl) ?_
                refine lv_aload_n hx hb dL_weight_73 rfl (lv_at hl 2 rfl) ?_
                refine lv_bipush (v := (nI 8)) hx hb dL_weight_74 (by decide) ?_
                refine lv_aload_n hx hb dL_weight_76 rfl (lv_at hl 0 rfl) ?_
                refine lv_iconst (v := (nI 3)) hx hb dL_weight_77 (by decide) ?_
                refine lv_iload hx hb dL_weight_78 (lv_at hl 8 rfl) ?_
                refine lv_imul hx hb dL_weight_80 ?_
                refine xtop (y := .int (nI (3 * k26))) (congrArg Value.int (pk_mul _ _)) ?_
                refine xiald (i := (3 * k26)) (n := 40) hx hb I (hL.1 0 40 (by decide)) (by omega) (by decide) dL_weight_81 ?_
                have g81 : lK σ 0 (3 * k26) < 1073741824 := hW.2.2.2.2.2.1 0 (3 * k26)
                have b81 : lK σ 0 (3 * k26) < 5 := hW.1 k26
                refine lv_iadd hx hb dL_weight_82 ?_
                refine xtop (y := .int (nI (8 + (lK σ 0 (3 * k26))))) (congrArg Value.int (nI_add _ _)) ?_
                refine xiald (i := (8 + (lK σ 0 (3 * k26)))) (n := 16) hx hb I (hL.1 1 16 (by decide)) (by omega) (by decide) dL_weight_83 ?_
                have g83 : lK σ 1 (8 + (lK σ 0 (3 * k26))) < 1073741824 := hW.2.2.2.2.2.1 1 (8 + (lK σ 0 (3 * k26)))
                have b83 : lK σ 1 (8 + (lK σ 0 (3 * k26))) ≤ 999 := hW.2.2.2.2.2.2 (lK σ 0 (3 * k26))
                refine lv_i2l (v := (lN (lK σ 1 (8 + (lK σ 0 (3 * k26)))))) hx hb dL_weight_84 (nI_l (by omega)) ?_
                refine lv_ladd hx hb dL_weight_85 ?_
                refine lv_lstore (lv' := [(6, .long (a26_6 + (lN (lK σ 1 (8 + (lK σ 0 (3 * k26))))))), (0, .ref (ar 0)), (1, .int (nI n1)), (2, .ref (ar 1)), (3, .ref (ar 2)), (4, .int (nI m1)), (5, .int (nI y1)), (8, .int (nI k10)), (9, .int (nI k26))]) hx hb dL_weight_86 hl (by decide) rfl (fun ls hl => ?_)
                refine lv_iinc (v := (nI (k26 + 1))) (lv' := [(9, .int (nI (k26 + 1))), (6, .long (a26_6 + (lN (lK σ 1 (8 + (lK σ 0 (3 * k26))))))), (0, .ref (ar 0)), (1, .int (nI n1)), (2, .ref (ar 1)), (3, .ref (ar 2)), (4, .int (nI m1)), (5, .int (nI y1)), (8, .int (nI k10))]) hx hb dL_weight_88 hl (k := 8) rfl (nI_succ k26).symm (by decide) rfl (fun ls hl => ?_)
                refine lv_goto (tgt := 26) hx hb dL_weight_91 (by decide) ?_
                exact ih26 (k26 + 1) (a26_6 + (lN (lK σ 1 (8 + (lK σ 0 (3 * k26)))))) (by first | omega | (simp only [lSI_K]; omega)) hG ls (lv_sub hl [2, 3, 4, 5, 6, 7, 1, 8, 0] rfl)
      exact L26 n1 0 a10_6 (by omega) hG ls (lv_sub hl [1, 2, 3, 4, 5, 6, 7, 8, 0] rfl)
  exact L10 ((100 * y1 + 100) - (100 * y1)) (100 * y1) (0 : Int64) (by omega) hG ls (lv_sub hl [2, 3, 4, 5, 6, 7, 1, 0] rfl)

def fL_covered_S90 (σ : LT) (n1 : Nat) (k1 : Nat) (k90 : Nat) : (Unit ⊕ Int32) := (if lK σ 0 (3 * k90) = lK σ 3 (6 * k1) then (if lK σ 3 (6 * k1 + 2) < lK σ 0 (3 * k90 + 1) then (Sum.inl ()) else (if lK σ 0 (3 * k90 + 2) ≤ lK σ 3 (6 * k1 + 2) then (Sum.inl ()) else (Sum.inr (nI 1)))) else (Sum.inl ()))
def fL_covered_L90 (σ : LT) (n1 : Nat) (k1 : Nat) : Nat → Nat → Int32
  | 0, k90 => (nI 0)
  | n90 + 1, k90 => lbind (fL_covered_S90 σ n1 k1 k90) (fun q => fL_covered_L90 σ n1 k1 n90 (k90 + 1))
def fL_covered_B87 (σ : LT) (n1 : Nat) (k1 : Nat) : Int32 := (fL_covered_L90 σ n1 k1 n1 0)
def fL_covered (σ : LT) (n1 : Nat) (k1 : Nat) : Int32 := (if lF σ ≤ (lK σ 3 (6 * k1 + 2)) / 100 then (if (lI σ 7 (9 + (lK σ 1 (lK σ 3 (6 * k1))))) < 0 then (fL_covered_B87 σ n1 k1) else (if (nI (lK σ 3 (6 * k1 + 2))) < (lI σ 7 (9 + (lK σ 1 (lK σ 3 (6 * k1))))) then (fL_covered_B87 σ n1 k1) else (nI 0))) else (if (lK σ 3 (6 * k1 + 5)) &&& 4 ≤ 0 then (nI 0) else (nI 1)))
set_option maxHeartbeats 4000000 in
set_option maxRecDepth 100000 in
theorem mL_covered (l : Launch) (lo : Nat) (D : va_G) (E : Nat → ClassId) (h : XW) (σ : LT) (ar : Nat → Nat) (hL : RA E σ ar h) (hW : LW σ) (n1 : Nat) (k1 : Nat) (hn : n1 ≤ 12) (hk : k1 < 10) : Met l yL_covered wsL_covered ({ frames := 0, cells := 0, slots := 0, locals := 0 } : Room) (xP lo D E h [.ref (ar 0), .int (nI n1), .ref (ar 1), .ref (ar 3), .ref (ar 7), .int (nI k1)]) (xR (some (.int (fL_covered σ n1 k1)))) 0 0 (fun _ => False) := by
  obtain ⟨G, hG⟩ : ∃ G, fL_covered σ n1 k1 = G := ⟨_, rfl⟩
  rw [hG]
  unfold fL_covered at hG
  refine Met.ofW (cc := cL_covered) (maxL := 7) (ret := (some .boolean)) (by decide) rfl ?_
  intro p e s m args below meth c s₁ B hml hv
  obtain ⟨rfl, I⟩ := hv
  have hx := B.exec
  have hb := B.bytes
  have hr := B.returns
  have hts := atoms_spec (ws := wsL_covered) B.pre
  have hown : s.vm.findClass RL = some m.cls := findClass_of_methodNamed B.named
  have hlocks := B.notSynchronized
  have hl := lv_entry ([.ref (ar 0), .int (nI n1), .ref (ar 1), .ref (ar 3), .ref (ar 7), .int (nI k1)] : List Value) (n := 7) (Nat.le_of_ble_eq_true rfl)
  rw [lg_entry_eq]
  generalize (lg_sl ([.ref (ar 0), .int (nI n1), .ref (ar 1), .ref (ar 3), .ref (ar 7), .int (nI k1)] : List Value) ++ List.replicate (7 - (lg_sl ([.ref (ar 0), .int (nI n1), .ref (ar 1), .ref (ar 3), .ref (ar 7), .int (nI k1)] : List Value)).length) Slot.unset).toArray = ls at hl ⊢
  have hl : lv_has ls 7 [(0, .ref (ar 0)), (1, .int (nI n1)), (2, .ref (ar 1)), (3, .ref (ar 3)), (4, .ref (ar 7)), (5, .int (nI k1))] := hl
  refine lv_aload_n hx hb dL_covered_0 rfl (lv_at hl 3 rfl) ?_
  refine lv_bipush (v := (nI 6)) hx hb dL_covered_1 (by decide) ?_
  refine lv_iload hx hb dL_covered_3 (lv_at hl 5 rfl) ?_
  refine lv_imul hx hb dL_covered_5 ?_
  refine xtop (y := .int (nI (6 * k1))) (congrArg Value.int (pk_mul _ _)) ?_
  refine lv_iconst (v := (nI 2)) hx hb dL_covered_6 (by decide) ?_
  refine lv_iadd hx hb dL_covered_7 ?_
  refine xtop (y := .int (nI (6 * k1 + 2))) (congrArg Value.int (nI_add _ _)) ?_
  refine xiald (i := (6 * k1 + 2)) (n := 64) hx hb I (hL.1 3 64 (by decide)) (by omega) (by decide) dL_covered_8 ?_
  have g8 : lK σ 3 (6 * k1 + 2) < 1073741824 := hW.2.2.2.2.2.1 3 (6 * k1 + 2)
  have b8 : lK σ 3 (6 * k1 + 2) < 300 := hW.2.2.2.1 k1
  refine lv_bipush (v := (nI 100)) hx hb dL_covered_9 (by decide) ?_
  refine lv_idiv hx hb dL_covered_11 (by decide) ?_
  refine xtop (y := .int (nI ((lK σ 3 (6 * k1 + 2)) / 100))) (congrArg Value.int (pk_div (by omega) (by decide) (by decide))) ?_
  refine lv_aload hx hb dL_covered_12 (lv_at hl 4 rfl) ?_
  refine lv_bipush (v := (nI 12)) hx hb dL_covered_14 (by decide) ?_
  refine xiald (i := 12) (n := 16) hx hb I (hL.2.1 7 16 (by decide)) (by omega) (by decide) dL_covered_16 ?_
  have f16 : lI σ 7 12 = nI (lF σ) ∧ lF σ ≤ 3 := hW.2.2.2.2.1
  refine xtop (y := .int (nI (lF σ))) (congrArg Value.int f16.1) ?_
  have b16 := f16.2
  refine lv_icmp_ge (tgt := 40) hx hb dL_covered_17 (by decide) (fun c_17 => ?_) (fun c_17 => ?_)
  · skip
    have c_17 : lF σ ≤ (lK σ 3 (6 * k1 + 2)) / 100 := (nI_leI (a := (lF σ)) (b := ((lK σ 3 (6 * k1 + 2)) / 100)) (by omega) (by omega)).mp c_17
    rw [if_pos c_17] at hG
    refine lv_aload hx hb dL_covered_40 (lv_at hl 4 rfl) ?_
    refine lv_bipush (v := (nI 9)) hx hb dL_covered_42 (by decide) ?_
    refine lv_aload_n hx hb dL_covered_44 rfl (lv_at hl 2 rfl) ?_
    refine lv_aload_n hx hb dL_covered_45 rfl (lv_at hl 3 rfl) ?_
    refine lv_bipush (v := (nI 6)) hx hb dL_covered_46 (by decide) ?_
    refine lv_iload hx hb dL_covered_48 (lv_at hl 5 rfl) ?_
    refine lv_imul hx hb dL_covered_50 ?_
    refine xtop (y := .int (nI (6 * k1))) (congrArg Value.int (pk_mul _ _)) ?_
    refine xiald (i := (6 * k1)) (n := 64) hx hb I (hL.1 3 64 (by decide)) (by omega) (by decide) dL_covered_51 ?_
    have g51 : lK σ 3 (6 * k1) < 1073741824 := hW.2.2.2.2.2.1 3 (6 * k1)
    have b51 : lK σ 3 (6 * k1) < 5 := hW.2.2.1 k1
    refine xiald (i := (lK σ 3 (6 * k1))) (n := 16) hx hb I (hL.1 1 16 (by decide)) (by omega) (by decide) dL_covered_52 ?_
    have g52 : lK σ 1 (lK σ 3 (6 * k1)) < 1073741824 := hW.2.2.2.2.2.1 1 (lK σ 3 (6 * k1))
    have b52 : lK σ 1 (lK σ 3 (6 * k1)) < 3 := hW.2.1 (lK σ 3 (6 * k1)) (by omega)
    refine lv_iadd hx hb dL_covered_53 ?_
    refine xtop (y := .int (nI (9 + (lK σ 1 (lK σ 3 (6 * k1)))))) (congrArg Value.int (nI_add _ _)) ?_
    refine xiald (i := (9 + (lK σ 1 (lK σ 3 (6 * k1))))) (n := 16) hx hb I (hL.2.1 7 16 (by decide)) (by omega) (by decide) dL_covered_54 ?_
    have B87 : fL_covered_B87 σ n1 k1 = G → ∀ ls : Array Slot, lv_has ls 7 [(0, .ref (ar 0)), (1, .int (nI n1)), (3, .ref (ar 3)), (5, .int (nI k1))] → W p l e (headSpec wsL_covered ({ frames := 0, cells := 0, slots := 0, locals := 0 } : Room)).room s m ([.ref (ar 0), .int (nI n1), .ref (ar 1), .ref (ar 3), .ref (ar 7), .int (nI k1)] : List Value).toArray below meth c s.heap [] 0 0 (MQ below (xR (some (.int G))) ([.ref (ar 0), .int (nI n1), .ref (ar 1), .ref (ar 3), .ref (ar 7), .int (nI k1)] : List Value).toArray s 0 0 (fun _ => False)) (F0 m 87 ls []) := by
      intro hG ls hl
      unfold fL_covered_B87 at hG
      refine lv_iconst (v := (nI 0)) hx hb dL_covered_87 (by decide) ?_
      refine lv_istore (lv' := [(6, .int (nI 0)), (0, .ref (ar 0)), (1, .int (nI n1)), (3, .ref (ar 3)), (5, .int (nI k1))]) hx hb dL_covered_88 hl (by decide) rfl (fun ls hl => ?_)
      have L90 : ∀ (n90 : Nat) (k90 : Nat), k90 + n90 = n1 → fL_covered_L90 σ n1 k1 n90 k90 = G → ∀ ls : Array Slot, lv_has ls 7 [(0, .ref (ar 0)), (1, .int (nI n1)), (3, .ref (ar 3)), (5, .int (nI k1)), (6, .int (nI k90))] → W p l e (headSpec wsL_covered ({ frames := 0, cells := 0, slots := 0, locals := 0 } : Room)).room s m ([.ref (ar 0), .int (nI n1), .ref (ar 1), .ref (ar 3), .ref (ar 7), .int (nI k1)] : List Value).toArray below meth c s.heap [] 0 0 (MQ below (xR (some (.int G))) ([.ref (ar 0), .int (nI n1), .ref (ar 1), .ref (ar 3), .ref (ar 7), .int (nI k1)] : List Value).toArray s 0 0 (fun _ => False)) (F0 m 90 ls []) := by
        intro n90
        induction n90 with
        | zero =>
          intro k90 hkn hG ls hl
          have hkN : k90 = n1 := by omega
          have hG : (nI 0) = G := hG
          refine lv_iload hx hb dL_covered_90 (lv_at hl 4 rfl) ?_
          refine lv_iload_n hx hb dL_covered_92 rfl (lv_at hl 1 rfl) ?_
          refine lv_icmp_ge (tgt := 160) hx hb dL_covered_93 (by decide) (fun _ => ?_) (fun q => absurd (nI_le (Nat.le_of_eq hkN.symm) (by omega)) q)
          refine lv_iconst (v := (nI 0)) hx hb dL_covered_160 (by decide) ?_
          exact xrzR hx hb hr hlocks dL_covered_161 hG (by have hG2 : (nI 0) = G := hG; rw [← hG2]; exact xnb (Or.inl rfl))
        | succ n90 ih90 =>
          intro k90 hkn hG ls hl
          have hk : k90 < n1 := by omega
          have hG : lbind ((if lK σ 0 (3 * k90) = lK σ 3 (6 * k1) then (if lK σ 3 (6 * k1 + 2) < lK σ 0 (3 * k90 + 1) then (Sum.inl ()) else (if lK σ 0 (3 * k90 + 2) ≤ lK σ 3 (6 * k1 + 2) then (Sum.inl ()) else (Sum.inr (nI 1)))) else (Sum.inl ()))) (fun q => fL_covered_L90 σ n1 k1 n90 (k90 + 1)) = G := hG
          refine lv_iload hx hb dL_covered_90 (lv_at hl 4 rfl) ?_
          refine lv_iload_n hx hb dL_covered_92 rfl (lv_at hl 1 rfl) ?_
          refine lv_icmp_ge (tgt := 160) hx hb dL_covered_93 (by decide) (fun q => absurd q (nI_ge hk (by omega))) (fun _ => ?_)
          refine lv_aload_n hx hb dL_covered_96 rfl (lv_at hl 0 rfl) ?_
          refine lv_iconst (v := (nI 3)) hx hb dL_covered_97 (by decide) ?_
          refine lv_iload hx hb dL_covered_98 (lv_at hl 4 rfl) ?_
          refine lv_imul hx hb dL_covered_100 ?_
          refine xtop (y := .int (nI (3 * k90))) (congrArg Value.int (pk_mul _ _)) ?_
          refine xiald (i := (3 * k90)) (n := 40) hx hb I (hL.1 0 40 (by decide)) (by omega) (by decide) dL_covered_101 ?_
          have g101 : lK σ 0 (3 * k90) < 1073741824 := hW.2.2.2.2.2.1 0 (3 * k90)
          have b101 : lK σ 0 (3 * k90) < 5 := hW.1 k90
          refine lv_aload_n hx hb dL_covered_102 rfl (lv_at hl 2 rfl) ?_
          refine lv_bipush (v := (nI 6)) hx hb dL_covered_103 (by decide) ?_
          refine lv_iload hx hb dL_covered_105 (lv_at hl 3 rfl) ?_
          refine lv_imul hx hb dL_covered_107 ?_
          refine xtop (y := .int (nI (6 * k1))) (congrArg Value.int (pk_mul _ _)) ?_
          refine xiald (i := (6 * k1)) (n := 64) hx hb I (hL.1 3 64 (by decide)) (by omega) (by decide) dL_covered_108 ?_
          have g108 : lK σ 3 (6 * k1) < 1073741824 := hW.2.2.2.2.2.1 3 (6 * k1)
          have b108 : lK σ 3 (6 * k1) < 5 := hW.2.2.1 k1
          refine lv_icmp_ne (tgt := 154) hx hb dL_covered_109 (by decide) (fun c_109 => ?_) (fun c_109 => ?_)
          · skip
            have c_109 : ¬ lK σ 0 (3 * k90) = lK σ 3 (6 * k1) := fun q => c_109 ((nI_eq (a := (lK σ 0 (3 * k90))) (b := (lK σ 3 (6 * k1))) (by omega) (by omega)).mpr q)
            rw [if_neg c_109] at hG
            refine lv_iinc (v := (nI (k90 + 1))) (lv' := [(6, .int (nI (k90 + 1))), (0, .ref (ar 0)), (1, .int (nI n1)), (3, .ref (ar 3)), (5, .int (nI k1))]) hx hb dL_covered_154 hl (k := 4) rfl (nI_succ k90).symm (by decide) rfl (fun ls hl => ?_)
            refine lv_goto (tgt := 90) hx hb dL_covered_157 (by decide) ?_
            exact ih90 (k90 + 1) (by first | omega | (simp only [lSI_K]; omega)) hG ls (lv_sub hl [1, 2, 3, 4, 0] rfl)
          · skip
            have c_109 : lK σ 0 (3 * k90) = lK σ 3 (6 * k1) := (nI_eq (a := (lK σ 0 (3 * k90))) (b := (lK σ 3 (6 * k1))) (by omega) (by omega)).mp c_109
            rw [if_pos c_109] at hG
            refine lv_aload_n hx hb dL_covered_112 rfl (lv_at hl 2 rfl) ?_
            refine lv_bipush (v := (nI 6)) hx hb dL_covered_113 (by decide) ?_
            refine lv_iload hx hb dL_covered_115 (lv_at hl 3 rfl) ?_
            refine lv_imul hx hb dL_covered_117 ?_
            refine xtop (y := .int (nI (6 * k1))) (congrArg Value.int (pk_mul _ _)) ?_
            refine lv_iconst (v := (nI 2)) hx hb dL_covered_118 (by decide) ?_
            refine lv_iadd hx hb dL_covered_119 ?_
            refine xtop (y := .int (nI (6 * k1 + 2))) (congrArg Value.int (nI_add _ _)) ?_
            refine xiald (i := (6 * k1 + 2)) (n := 64) hx hb I (hL.1 3 64 (by decide)) (by omega) (by decide) dL_covered_120 ?_
            have g120 : lK σ 3 (6 * k1 + 2) < 1073741824 := hW.2.2.2.2.2.1 3 (6 * k1 + 2)
            have b120 : lK σ 3 (6 * k1 + 2) < 300 := hW.2.2.2.1 k1
            refine lv_aload_n hx hb dL_covered_121 rfl (lv_at hl 0 rfl) ?_
            refine lv_iconst (v := (nI 3)) hx hb dL_covered_122 (by decide) ?_
            refine lv_iload hx hb dL_covered_123 (lv_at hl 4 rfl) ?_
            refine lv_imul hx hb dL_covered_125 ?_
            refine xtop (y := .int (nI (3 * k90))) (congrArg Value.int (pk_mul _ _)) ?_
            refine lv_iconst (v := (nI 1)) hx hb dL_covered_126 (by decide) ?_
            refine lv_iadd hx hb dL_covered_127 ?_
            refine xtop (y := .int (nI (3 * k90 + 1))) (congrArg Value.int (nI_add _ _)) ?_
            refine xiald (i := (3 * k90 + 1)) (n := 40) hx hb I (hL.1 0 40 (by decide)) (by omega) (by decide) dL_covered_128 ?_
            have g128 : lK σ 0 (3 * k90 + 1) < 1073741824 := hW.2.2.2.2.2.1 0 (3 * k90 + 1)
            refine lv_icmp_lt (tgt := 154) hx hb dL_covered_129 (by decide) (fun c_129 => ?_) (fun c_129 => ?_)
            · skip
              have c_129 : lK σ 3 (6 * k1 + 2) < lK σ 0 (3 * k90 + 1) := (nI_ltI (a := (lK σ 3 (6 * k1 + 2))) (b := (lK σ 0 (3 * k90 + 1))) (by omega) (by omega)).mp c_129
              rw [if_pos c_129] at hG
              refine lv_iinc (v := (nI (k90 + 1))) (lv' := [(6, .int (nI (k90 + 1))), (0, .ref (ar 0)), (1, .int (nI n1)), (3, .ref (ar 3)), (5, .int (nI k1))]) hx hb dL_covered_154 hl (k := 4) rfl (nI_succ k90).symm (by decide) rfl (fun ls hl => ?_)
              refine lv_goto (tgt := 90) hx hb dL_covered_157 (by decide) ?_
              exact ih90 (k90 + 1) (by first | omega | (simp only [lSI_K]; omega)) hG ls (lv_sub hl [1, 2, 3, 4, 0] rfl)
            · skip
              have c_129 : ¬ lK σ 3 (6 * k1 + 2) < lK σ 0 (3 * k90 + 1) := fun q => c_129 ((nI_ltI (a := (lK σ 3 (6 * k1 + 2))) (b := (lK σ 0 (3 * k90 + 1))) (by omega) (by omega)).mpr q)
              rw [if_neg c_129] at hG
              refine lv_aload_n hx hb dL_covered_132 rfl (lv_at hl 2 rfl) ?_
              refine lv_bipush (v := (nI 6)) hx hb dL_covered_133 (by decide) ?_
              refine lv_iload hx hb dL_covered_135 (lv_at hl 3 rfl) ?_
              refine lv_imul hx hb dL_covered_137 ?_
              refine xtop (y := .int (nI (6 * k1))) (congrArg Value.int (pk_mul _ _)) ?_
              refine lv_iconst (v := (nI 2)) hx hb dL_covered_138 (by decide) ?_
              refine lv_iadd hx hb dL_covered_139 ?_
              refine xtop (y := .int (nI (6 * k1 + 2))) (congrArg Value.int (nI_add _ _)) ?_
              refine xiald (i := (6 * k1 + 2)) (n := 64) hx hb I (hL.1 3 64 (by decide)) (by omega) (by decide) dL_covered_140 ?_
              have g140 : lK σ 3 (6 * k1 + 2) < 1073741824 := hW.2.2.2.2.2.1 3 (6 * k1 + 2)
              have b140 : lK σ 3 (6 * k1 + 2) < 300 := hW.2.2.2.1 k1
              refine lv_aload_n hx hb dL_covered_141 rfl (lv_at hl 0 rfl) ?_
              refine lv_iconst (v := (nI 3)) hx hb dL_covered_142 (by decide) ?_
              refine lv_iload hx hb dL_covered_143 (lv_at hl 4 rfl) ?_
              refine lv_imul hx hb dL_covered_145 ?_
              refine xtop (y := .int (nI (3 * k90))) (congrArg Value.int (pk_mul _ _)) ?_
              refine lv_iconst (v := (nI 2)) hx hb dL_covered_146 (by decide) ?_
              refine lv_iadd hx hb dL_covered_147 ?_
              refine xtop (y := .int (nI (3 * k90 + 2))) (congrArg Value.int (nI_add _ _)) ?_
              refine xiald (i := (3 * k90 + 2)) (n := 40) hx hb I (hL.1 0 40 (by decide)) (by omega) (by decide) dL_covered_148 ?_
              have g148 : lK σ 0 (3 * k90 + 2) < 1073741824 := hW.2.2.2.2.2.1 0 (3 * k90 + 2)
              refine lv_icmp_ge (tgt := 154) hx hb dL_covered_149 (by decide) (fun c_149 => ?_) (fun c_149 => ?_)
              · skip
                have c_149 : lK σ 0 (3 * k90 + 2) ≤ lK σ 3 (6 * k1 + 2) := (nI_leI (a := (lK σ 0 (3 * k90 + 2))) (b := (lK σ 3 (6 * k1 + 2))) (by omega) (by omega)).mp c_149
                rw [if_pos c_149] at hG
                refine lv_iinc (v := (nI (k90 + 1))) (lv' := [(6, .int (nI (k90 + 1))), (0, .ref (ar 0)), (1, .int (nI n1)), (3, .ref (ar 3)), (5, .int (nI k1))]) hx hb dL_covered_154 hl (k := 4) rfl (nI_succ k90).symm (by decide) rfl (fun ls hl => ?_)
                refine lv_goto (tgt := 90) hx hb dL_covered_157 (by decide) ?_
                exact ih90 (k90 + 1) (by first | omega | (simp only [lSI_K]; omega)) hG ls (lv_sub hl [1, 2, 3, 4, 0] rfl)
              · skip
                have c_149 : ¬ lK σ 0 (3 * k90 + 2) ≤ lK σ 3 (6 * k1 + 2) := fun q => c_149 ((nI_leI (a := (lK σ 0 (3 * k90 + 2))) (b := (lK σ 3 (6 * k1 + 2))) (by omega) (by omega)).mpr q)
                rw [if_neg c_149] at hG
                refine lv_iconst (v := (nI 1)) hx hb dL_covered_152 (by decide) ?_
                exact xrzR hx hb hr hlocks dL_covered_153 hG (by have hG2 : (nI 1) = G := hG; rw [← hG2]; exact xnb (Or.inr rfl))
      exact L90 n1 0 (by omega) hG ls (lv_sub hl [1, 2, 3, 4, 0] rfl)
    refine lv_if_lt (tgt := 87) hx hb dL_covered_55 (by decide) (fun c_55 => ?_) (fun c_55 => ?_)
    · skip
      rw [if_pos c_55] at hG
      exact B87 hG ls (lv_sub hl [0, 1, 3, 5] rfl)
    · skip
      rw [if_neg c_55] at hG
      refine lv_aload hx hb dL_covered_58 (lv_at hl 4 rfl) ?_
      refine lv_bipush (v := (nI 9)) hx hb dL_covered_60 (by decide) ?_
      refine lv_aload_n hx hb dL_covered_62 rfl (lv_at hl 2 rfl) ?_
      refine lv_aload_n hx hb dL_covered_63 rfl (lv_at hl 3 rfl) ?_
      refine lv_bipush (v := (nI 6)) hx hb dL_covered_64 (by decide) ?_
      refine lv_iload hx hb dL_covered_66 (lv_at hl 5 rfl) ?_
      refine lv_imul hx hb dL_covered_68 ?_
      refine xtop (y := .int (nI (6 * k1))) (congrArg Value.int (pk_mul _ _)) ?_
      refine xiald (i := (6 * k1)) (n := 64) hx hb I (hL.1 3 64 (by decide)) (by omega) (by decide) dL_covered_69 ?_
      have g69 : lK σ 3 (6 * k1) < 1073741824 := hW.2.2.2.2.2.1 3 (6 * k1)
      have b69 : lK σ 3 (6 * k1) < 5 := hW.2.2.1 k1
      refine xiald (i := (lK σ 3 (6 * k1))) (n := 16) hx hb I (hL.1 1 16 (by decide)) (by omega) (by decide) dL_covered_70 ?_
      have g70 : lK σ 1 (lK σ 3 (6 * k1)) < 1073741824 := hW.2.2.2.2.2.1 1 (lK σ 3 (6 * k1))
      have b70 : lK σ 1 (lK σ 3 (6 * k1)) < 3 := hW.2.1 (lK σ 3 (6 * k1)) (by omega)
      refine lv_iadd hx hb dL_covered_71 ?_
      refine xtop (y := .int (nI (9 + (lK σ 1 (lK σ 3 (6 * k1)))))) (congrArg Value.int (nI_add _ _)) ?_
      refine xiald (i := (9 + (lK σ 1 (lK σ 3 (6 * k1))))) (n := 16) hx hb I (hL.2.1 7 16 (by decide)) (by omega) (by decide) dL_covered_72 ?_
      refine lv_aload_n hx hb dL_covered_73 rfl (lv_at hl 3 rfl) ?_
      refine lv_bipush (v := (nI 6)) hx hb dL_covered_74 (by decide) ?_
      refine lv_iload hx hb dL_covered_76 (lv_at hl 5 rfl) ?_
      refine lv_imul hx hb dL_covered_78 ?_
      refine xtop (y := .int (nI (6 * k1))) (congrArg Value.int (pk_mul _ _)) ?_
      refine lv_iconst (v := (nI 2)) hx hb dL_covered_79 (by decide) ?_
      refine lv_iadd hx hb dL_covered_80 ?_
      refine xtop (y := .int (nI (6 * k1 + 2))) (congrArg Value.int (nI_add _ _)) ?_
      refine xiald (i := (6 * k1 + 2)) (n := 64) hx hb I (hL.1 3 64 (by decide)) (by omega) (by decide) dL_covered_81 ?_
      have g81 : lK σ 3 (6 * k1 + 2) < 1073741824 := hW.2.2.2.2.2.1 3 (6 * k1 + 2)
      have b81 : lK σ 3 (6 * k1 + 2) < 300 := hW.2.2.2.1 k1
      refine lv_icmp_gt (tgt := 87) hx hb dL_covered_82 (by decide) (fun c_82 => ?_) (fun c_82 => ?_)
      · skip
        rw [if_pos c_82] at hG
        exact B87 hG ls (lv_sub hl [0, 1, 3, 5] rfl)
      · skip
        rw [if_neg c_82] at hG
        refine lv_iconst (v := (nI 0)) hx hb dL_covered_85 (by decide) ?_
        exact xrzR hx hb hr hlocks dL_covered_86 hG (by have hG2 : (nI 0) = G := hG; rw [← hG2]; exact xnb (Or.inl rfl))
  · skip
    have c_17 : ¬ lF σ ≤ (lK σ 3 (6 * k1 + 2)) / 100 := fun q => c_17 ((nI_leI (a := (lF σ)) (b := ((lK σ 3 (6 * k1 + 2)) / 100)) (by omega) (by omega)).mpr q)
    rw [if_neg c_17] at hG
    refine lv_aload_n hx hb dL_covered_20 rfl (lv_at hl 3 rfl) ?_
    refine lv_bipush (v := (nI 6)) hx hb dL_covered_21 (by decide) ?_
    refine lv_iload hx hb dL_covered_23 (lv_at hl 5 rfl) ?_
    refine lv_imul hx hb dL_covered_25 ?_
    refine xtop (y := .int (nI (6 * k1))) (congrArg Value.int (pk_mul _ _)) ?_
    refine lv_iconst (v := (nI 5)) hx hb dL_covered_26 (by decide) ?_
    refine lv_iadd hx hb dL_covered_27 ?_
    refine xtop (y := .int (nI (6 * k1 + 5))) (congrArg Value.int (nI_add _ _)) ?_
    refine xiald (i := (6 * k1 + 5)) (n := 64) hx hb I (hL.1 3 64 (by decide)) (by omega) (by decide) dL_covered_28 ?_
    have g28 : lK σ 3 (6 * k1 + 5) < 1073741824 := hW.2.2.2.2.2.1 3 (6 * k1 + 5)
    refine lv_iconst (v := (nI 4)) hx hb dL_covered_29 (by decide) ?_
    refine lv_iand hx hb dL_covered_30 ?_
    refine xtop (y := .int (nI ((lK σ 3 (6 * k1 + 5)) &&& 4))) (congrArg Value.int nI_and) ?_
    have h30 : (lK σ 3 (6 * k1 + 5)) &&& 4 ≤ 4 := Nat.and_le_right
    refine lv_if_le (tgt := 38) hx hb dL_covered_31 (by decide) (fun c_31 => ?_) (fun c_31 => ?_)
    · skip
      have c_31 : (lK σ 3 (6 * k1 + 5)) &&& 4 ≤ 0 := (nI_leI (a := ((lK σ 3 (6 * k1 + 5)) &&& 4)) (b := 0) (by omega) (by omega)).mp c_31
      rw [if_pos c_31] at hG
      refine lv_iconst (v := (nI 0)) hx hb dL_covered_38 (by decide) ?_
      exact xrzR hx hb hr hlocks dL_covered_39 hG (by have hG2 : (nI 0) = G := hG; rw [← hG2]; exact xnb (Or.inl rfl))
    · skip
      have c_31 : ¬ (lK σ 3 (6 * k1 + 5)) &&& 4 ≤ 0 := fun q => c_31 ((nI_leI (a := ((lK σ 3 (6 * k1 + 5)) &&& 4)) (b := 0) (by omega) (by omega)).mpr q)
      rw [if_neg c_31] at hG
      refine lv_iconst (v := (nI 1)) hx hb dL_covered_34 (by decide) ?_
      refine lv_goto (tgt := 39) hx hb dL_covered_35 (by decide) ?_
      exact xrzR hx hb hr hlocks dL_covered_39 hG (by have hG2 : (nI 1) = G := hG; rw [← hG2]; exact xnb (Or.inr rfl))

theorem zL_covered_L (σ : LT) (n1 k1 : Nat) : ∀ n k, fL_covered_L90 σ n1 k1 n k = 0 ∨ fL_covered_L90 σ n1 k1 n k = 1 := by
  intro n
  induction n with
  | zero => intro k; exact Or.inl rfl
  | succ n ih =>
    intro k
    simp only [fL_covered_L90, fL_covered_S90]
    repeat' split
    all_goals first | exact ih _ | exact Or.inr rfl

theorem zL_covered (σ : LT) (n1 k1 : Nat) : fL_covered σ n1 k1 = 0 ∨ fL_covered σ n1 k1 = 1 := by
  unfold fL_covered fL_covered_B87
  repeat' split
  all_goals first | exact Or.inl rfl | exact Or.inr rfl | exact zL_covered_L σ n1 k1 _ _
