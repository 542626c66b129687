def fX8_release_S152 (σ : MT) (th : Int32) (a1 : Int32) (a2 : Int32) (w107_5 : Int32) (k152 : Nat) (σ152 : MT) : ((MT) ⊕ Int32 × MT × Int32) := (Sum.inl (if (fX8_canRelease σ152 (tn a1) k152) = 0 then σ152 else (mSI (mSL σ152 7 (20 * (tn a1) + k152) ((fX8_dueOf σ152 (tn a1) k152) + (((fX8_base σ152 (tn a1) k152) * (nI (tn a2)).toInt64) / (100 : Int64)))) 6 (20 * (tn a1) + k152) (nI 1))))
def fX8_release_L152 (σ : MT) (th : Int32) (a1 : Int32) (a2 : Int32) (w107_5 : Int32) : Nat → Nat → MT → Int32 × MT × Int32
  | 0, k152, σ152 => (w107_5, σ152, (nI 0))
  | n152 + 1, k152, σ152 => lbind (fX8_release_S152 σ th a1 a2 w107_5 k152 σ152) (fun q => fX8_release_L152 σ th a1 a2 w107_5 n152 (k152 + 1) q)
def fX8_release_B107 (σ : MT) (th : Int32) (a1 : Int32) (a2 : Int32) (a12_4 : Int32) (w107_5 : Int32) : Int32 × MT × Int32 := (if (fX8_isMember σ a1) = 0 then ((nI 0), σ, (nI 1)) else (if (fX8_isIn a2 (nI 0) (nI 200)) = 0 then ((nI 0), σ, (nI 2)) else (if a12_4 = 0 then (if w107_5 = 0 then ((nI 0), σ, (nI 3)) else (fX8_release_L152 σ th a1 a2 w107_5 20 0 σ)) else ((nI 0), σ, (nI 3)))))
def fX8_release_S70 (σ : MT) (th : Int32) (a1 : Int32) (a2 : Int32) (a12_4 : Int32) (k70 : Nat) (a70_5 : Int32) : ((Int32) ⊕ Int32 × MT × Int32) := (if (fX8_isMember σ a1) = 0 then (Sum.inr (fX8_release_B107 σ th a1 a2 a12_4 a70_5)) else (Sum.inl (if (fX8_canRelease σ (tn a1) k70) = 0 then (a70_5 + (nI 0)) else (a70_5 + (nI 1)))))
def fX8_release_L70 (σ : MT) (th : Int32) (a1 : Int32) (a2 : Int32) (a12_4 : Int32) : Nat → Nat → Int32 → Int32 × MT × Int32
  | 0, k70, a70_5 => (fX8_release_B107 σ th a1 a2 a12_4 a70_5)
  | n70 + 1, k70, a70_5 => lbind (fX8_release_S70 σ th a1 a2 a12_4 k70 a70_5) (fun q => fX8_release_L70 σ th a1 a2 a12_4 n70 (k70 + 1) q)
def fX8_release_S12 (σ : MT) (th : Int32) (a1 : Int32) (a2 : Int32) (k12 : Nat) (a12_4 : Int32) : (Int32) := (if a12_4 = 0 then (if (fX8_isMember σ a1) = 0 then (nI 0) else (if (nI (mK σ 9 k12)) = (nI (tn a1)) then (if (fX8_open σ (nI k12)) = (-1) then (nI 0) else (nI 1)) else (nI 0))) else (nI 1))
def fX8_release_L12 (σ : MT) (th : Int32) (a1 : Int32) (a2 : Int32) : Nat → Nat → Int32 → Int32 × MT × Int32
  | 0, k12, a12_4 => (fX8_release_L70 σ th a1 a2 a12_4 20 0 (nI 0))
  | n12 + 1, k12, a12_4 => lseq (fX8_release_S12 σ th a1 a2 k12 a12_4) (fun q => fX8_release_L12 σ th a1 a2 n12 (k12 + 1) q)
def fX8_release (σ : MT) (th : Int32) (a1 : Int32) (a2 : Int32) : Int32 × MT × Int32 := (fX8_release_L12 σ th a1 a2 (mN σ 8) 0 (nI 0))
set_option maxHeartbeats 4000000 in
set_option maxRecDepth 100000 in
theorem mX8_release (l : Launch) (lo : Nat) (D : va_G) (E : Nat → ClassId) (h : XW) (σ : MT) (th : Int32) (r : Nat) (ar : Nat → Nat) (hR : RM E σ th r ar h) (hW : MW σ) (a1 : Int32) (a2 : Int32) : Met l yX8_release wsX8_release ({ frames := 3, cells := 0, slots := 0, locals := 76 } : Room) (xP lo D E h [.ref r, .int a1, .int a2]) (xQ lo D (fun v h' => v = some (.int (fX8_release σ th a1 a2).1) ∧ RM E (fX8_release σ th a1 a2).2.1 (fX8_release σ th a1 a2).2.2 r ar h' ∧ xF r ar h h')) 0 0 (xA lo) := by
  obtain ⟨G, hG⟩ : ∃ G, fX8_release σ th a1 a2 = G := ⟨_, rfl⟩
  rw [hG]
  unfold fX8_release at hG
  refine Met.ofW (cc := cX8_release) (maxL := 7) (ret := (some .int)) (by decide) rfl ?_
  intro p e s m args below meth c s₁ B hml hv
  obtain ⟨rfl, I⟩ := hv
  have hx := B.exec
  have hb := B.bytes
  have hr := B.returns
  have hts := atoms_spec (ws := wsX8_release) B.pre
  have hown : s.vm.findClass RX8 = some m.cls := findClass_of_methodNamed B.named
  have hlocks := B.notSynchronized
  have hl := lv_entry ([.ref r, .int a1, .int a2] : List Value) (n := 7) (Nat.le_of_ble_eq_true rfl)
  rw [lg_entry_eq]
  generalize (lg_sl ([.ref r, .int a1, .int a2] : List Value) ++ List.replicate (7 - (lg_sl ([.ref r, .int a1, .int a2] : List Value)).length) Slot.unset).toArray = ls at hl ⊢
  have hl : lv_has ls 7 [(0, .ref r), (1, .int a1), (2, .int a2)] := hl
  have hin8 : ∀ w ∈ u_ws RX8 TX8 37, w ∈ wsX8_release := fun _ h => List.mem_cons_of_mem _ (List.mem_append_right _ (h))
  have hW0 := hW
  obtain ⟨⟨w1, w2, w3, w4, w5, w6, w7⟩, w9, w12, w21, w22, w23, w25, w31, z26, z27, z28, z36⟩ := id hW
  have hS : va_S (xA lo) s.heap s.heap [] := va_S.rf
  have hF : xF r ar h h := xF.rf
  refine lv_aload_n hx hb dX8_release_0 rfl (lv_at hl 0 rfl) ?_
  refine lv_iload_n hx hb dX8_release_1 rfl (lv_at hl 1 rfl) ?_
  refine xcvR (As := [.int a1]) (rest := []) (v := some (.int (fX8_isMember σ a1))) ⟨hx, hb, hml, hown, hts⟩ (mX8_isMember l lo D E h σ th r ar hR hW a1  ) (cwV 1 hts gX8_release_X8_isMember rfl rfl rfl (by decide +kernel) ⟨Nat.le_of_ble_eq_true rfl, Nat.le_of_ble_eq_true rfl⟩) I hR.1 rfl rfl hl.1 rfl (Nat.le_of_ble_eq_true rfl) dX8_release_2 ⟨Nat.le_of_ble_eq_true rfl, Nat.le_of_ble_eq_true rfl⟩ ?_
  refine W.eq (g2 := F0 m 5 ls [.int (fX8_isMember σ a1)]) rfl ?_
  refine lv_istore_n (lv' := [(3, .int (fX8_isMember σ a1)), (0, .ref r), (1, .int a1), (2, .int a2)]) hx hb dX8_release_5 rfl hl (by decide) rfl (fun ls hl => ?_)
  refine lv_iconst (v := (nI 0)) hx hb dX8_release_6 (by decide) ?_
  refine lv_istore (lv' := [(4, .int (nI 0)), (3, .int (fX8_isMember σ a1)), (0, .ref r), (1, .int a1), (2, .int a2)]) hx hb dX8_release_7 hl (by decide) rfl (fun ls hl => ?_)
  refine lv_iconst (v := (nI 0)) hx hb dX8_release_9 (by decide) ?_
  refine lv_istore (lv' := [(5, .int (nI 0)), (4, .int (nI 0)), (3, .int (fX8_isMember σ a1)), (0, .ref r), (1, .int a1), (2, .int a2)]) hx hb dX8_release_10 hl (by decide) rfl (fun ls hl => ?_)
  have L12 : ∀ (n12 : Nat) (k12 : Nat) (a12_4 : Int32), k12 + n12 = mN σ 8 → (a12_4 = 0 ∨ a12_4 = 1) → fX8_release_L12 σ th a1 a2 n12 k12 a12_4 = G → ∀ ls : Array Slot, lv_has ls 7 [(0, .ref r), (1, .int a1), (2, .int a2), (3, .int (fX8_isMember σ a1)), (4, .int a12_4), (5, .int (nI k12))] → W p l e (headSpec wsX8_release ({ frames := 3, cells := 0, slots := 0, locals := 76 } : Room)).room s m ([.ref r, .int a1, .int a2] : List Value).toArray below meth c s.heap [] 0 0 (MQ below (xQ lo D (fun v h' => v = some (.int (G).1) ∧ RM E (G).2.1 (G).2.2 r ar h' ∧ xF r ar h h')) ([.ref r, .int a1, .int a2] : List Value).toArray s 0 0 (xA lo)) (F0 m 12 ls []) := by
    intro n12
    induction n12 with
    | zero =>
      intro k12 a12_4 hkn za12_4 hG ls hl
      have hkN : k12 = mN σ 8 := by omega
      have hG : (fX8_release_L70 σ th a1 a2 a12_4 20 0 (nI 0)) = G := hG
      refine lv_iload hx hb dX8_release_12 (lv_at hl 5 rfl) ?_
      refine lv_aload_n hx hb dX8_release_14 rfl (lv_at hl 0 rfl) ?_
      refine xget (C := RX8) (T := TX8) (N := 37) 8 hx hb hts hin8 hown I hR.1 rfl (by decide) (List.mem_of_getElem? (i := 1) rfl) rfl rfl dX8_release_15 ?_
      refine lv_icmp_ge (tgt := 64) hx hb dX8_release_18 (by decide) (fun _ => ?_) (fun q => absurd (nI_le (Nat.le_of_eq hkN.symm) (by omega)) q)
      refine lv_iconst (v := (nI 0)) hx hb dX8_release_64 (by decide) ?_
      refine lv_istore (lv' := [(5, .int (nI 0)), (0, .ref r), (1, .int a1), (2, .int a2), (3, .int (fX8_isMember σ a1)), (4, .int a12_4)]) hx hb dX8_release_65 hl (by decide) rfl (fun ls hl => ?_)
      refine lv_iconst (v := (nI 0)) hx hb dX8_release_67 (by decide) ?_
      refine lv_istore (lv' := [(6, .int (nI 0)), (5, .int (nI 0)), (0, .ref r), (1, .int a1), (2, .int a2), (3, .int (fX8_isMember σ a1)), (4, .int a12_4)]) hx hb dX8_release_68 hl (by decide) rfl (fun ls hl => ?_)
      have B107 : ∀ (w107_5 : Int32), fX8_release_B107 σ th a1 a2 a12_4 w107_5 = G → ∀ ls : Array Slot, lv_has ls 7 [(0, .ref r), (1, .int a1), (2, .int a2), (3, .int (fX8_isMember σ a1)), (4, .int a12_4), (5, .int w107_5)] → W p l e (headSpec wsX8_release ({ frames := 3, cells := 0, slots := 0, locals := 76 } : Room)).room s m ([.ref r, .int a1, .int a2] : List Value).toArray below meth c s.heap [] 0 0 (MQ below (xQ lo D (fun v h' => v = some (.int (G).1) ∧ RM E (G).2.1 (G).2.2 r ar h' ∧ xF r ar h h')) ([.ref r, .int a1, .int a2] : List Value).toArray s 0 0 (xA lo)) (F0 m 107 ls []) := by
        intro w107_5 hG ls hl
        unfold fX8_release_B107 at hG
        refine lv_aload_n hx hb dX8_release_107 rfl (lv_at hl 0 rfl) ?_
        refine lv_iload_n hx hb dX8_release_108 rfl (lv_at hl 3 rfl) ?_
        refine lv_if_ne (tgt := 116) hx hb dX8_release_109 (by decide) (fun c_109 => ?_) (fun c_109 => ?_)
        · skip
          rw [if_neg c_109] at hG
          obtain ⟨e_a1, l_a1⟩ := ok_isMember hW c_109
          refine lv_iload_n hx hb dX8_release_116 rfl (lv_at hl 2 rfl) ?_
          refine lv_iconst (v := (nI 0)) hx hb dX8_release_117 (by decide) ?_
          refine lv_sipush (v := (nI 200)) hx hb dX8_release_118 (by decide) ?_
          refine xcsR (As := [.int a2, .int (nI 0), .int (nI 200)]) (rest := [.ref r]) (v := some (.int (fX8_isIn a2 (nI 0) (nI 200)))) ⟨hx, hb, hml, hown, hts⟩ (mX8_isIn l lo D E h  a2 (nI 0) (nI 200)  ) (va_cwS 3 hts gX8_release_X8_isIn rfl rfl rfl (by decide +kernel) ⟨Nat.le_of_ble_eq_true rfl, Nat.le_of_ble_eq_true rfl⟩) I rfl hl.1 rfl (Nat.le_of_ble_eq_true rfl) dX8_release_121 ⟨Nat.le_of_ble_eq_true rfl, Nat.le_of_ble_eq_true rfl⟩ ?_
          refine W.eq (g2 := F0 m 124 ls [.int (fX8_isIn a2 (nI 0) (nI 200)), .ref r]) rfl ?_
          refine lv_if_ne (tgt := 131) hx hb dX8_release_124 (by decide) (fun c_124 => ?_) (fun c_124 => ?_)
          · skip
            rw [if_neg c_124] at hG
            obtain ⟨e_a2, l_a2⟩ := ok_isIn (by decide) c_124
            refine lv_iload hx hb dX8_release_131 (lv_at hl 4 rfl) ?_
            refine lv_if_ne (tgt := 141) hx hb dX8_release_133 (by decide) (fun c_133 => ?_) (fun c_133 => ?_)
            · skip
              rw [if_neg c_133] at hG
              refine lv_iconst (v := (nI 3)) hx hb dX8_release_141 (by decide) ?_
              refine lv_goto (tgt := 146) hx hb dX8_release_142 (by decide) ?_
              refine xputM 0 hx hb hts hin8 hown I hS hR hF (by decide) (List.mem_of_getElem? (i := 3) rfl) rfl rfl rfl rfl rfl (hR.putTh _) dX8_release_146 (fun H locs hw I hR hF hS => ?_)
              refine lv_iconst (v := (nI 0)) hx hb dX8_release_149 (by decide) ?_
              refine lv_istore (lv' := [(6, .int (nI 0)), (0, .ref r), (1, .int a1), (2, .int a2), (3, .int (fX8_isMember σ a1)), (4, .int a12_4), (5, .int w107_5)]) hx hb dX8_release_150 hl (by decide) rfl (fun ls hl => ?_)
              refine lv_iload hx hb dX8_release_152 (lv_at hl 0 rfl) ?_
              refine lv_bipush (v := (nI 20)) hx hb dX8_release_154 (by decide) ?_
              refine lv_icmp_ge (tgt := 229) hx hb dX8_release_156 (by decide) (fun q => absurd q (by decide)) (fun _ => ?_)
              refine lv_aload_n hx hb dX8_release_159 rfl (lv_at hl 1 rfl) ?_
              refine xget (C := RX8) (T := TX8) (N := 37) 0 hx hb hts hin8 hown I hR.1 rfl (by decide) (List.mem_of_getElem? (i := 3) rfl) rfl rfl dX8_release_160 ?_
              refine lv_if_ne (tgt := 229) hx hb dX8_release_163 (by decide) (fun _ => ?_) (fun q => absurd q (by decide))
              refine lv_aload_n hx hb dX8_release_229 rfl (lv_at hl 1 rfl) ?_
              refine xget (C := RX8) (T := TX8) (N := 37) 0 hx hb hts hin8 hown I hR.1 rfl (by decide) (List.mem_of_getElem? (i := 3) rfl) rfl rfl dX8_release_230 ?_
              refine lv_if_le (tgt := 240) hx hb dX8_release_233 (by decide) (fun q => absurd q (by decide)) (fun _ => ?_)
              refine lv_iconst (v := (nI 0)) hx hb dX8_release_236 (by decide) ?_
              refine lv_goto (tgt := 242) hx hb dX8_release_237 (by decide) ?_
              subst hG
              exact xriQ hx hb hr hlocks dX8_release_242 I hS ⟨rfl, hR, hF⟩
            · skip
              rw [if_pos c_133] at hG
              refine lv_iload hx hb dX8_release_136 (lv_at hl 5 rfl) ?_
              refine lv_if_ne (tgt := 145) hx hb dX8_release_138 (by decide) (fun c_138 => ?_) (fun c_138 => ?_)
              · skip
                rw [if_neg c_138] at hG
                refine lv_iconst (v := (nI 0)) hx hb dX8_release_145 (by decide) ?_
                refine xputM 0 hx hb hts hin8 hown I hS hR hF (by decide) (List.mem_of_getElem? (i := 3) rfl) rfl rfl rfl rfl rfl (hR.putTh _) dX8_release_146 (fun H locs hw I hR hF hS => ?_)
                refine lv_iconst (v := (nI 0)) hx hb dX8_release_149 (by decide) ?_
                refine lv_istore (lv' := [(6, .int (nI 0)), (0, .ref r), (1, .int a1), (2, .int a2), (3, .int (fX8_isMember σ a1)), (4, .int a12_4), (5, .int w107_5)]) hx hb dX8_release_150 hl (by decide) rfl (fun ls hl => ?_)
                have L152 : ∀ (n152 : Nat) (k152 : Nat) (σ152 : MT), k152 + n152 = 20 → ∀ (H : Heap) (locs : List Loc) (hw : XW), XI lo D E hw s H → RM E σ152 (nI 0) r ar hw → xF r ar h hw → va_S (xA lo) s.heap H locs → MW σ152 → mN σ152 2 = mN σ 2 → fX8_release_L152 σ th a1 a2 w107_5 n152 k152 σ152 = G → ∀ ls : Array Slot, lv_has ls 7 [(0, .ref r), (1, .int a1), (2, .int a2), (5, .int w107_5), (6, .int (nI k152))] → W p l e (headSpec wsX8_release ({ frames := 3, cells := 0, slots := 0, locals := 76 } : Room)).room s m ([.ref r, .int a1, .int a2] : List Value).toArray below meth c H locs 0 0 (MQ below (xQ lo D (fun v h' => v = some (.int (G).1) ∧ RM E (G).2.1 (G).2.2 r ar h' ∧ xF r ar h h')) ([.ref r, .int a1, .int a2] : List Value).toArray s 0 0 (xA lo)) (F0 m 152 ls []) := by
                  intro n152
                  induction n152 with
                  | zero =>
                    intro k152 σ152 hkn H locs hw I hR hF hS hW si0 hG ls hl
                    have hkN : k152 = 20 := by omega
                    have wf152 := hW.1
                    have hG : (w107_5, σ152, (nI 0)) = G := hG
                    refine lv_iload hx hb dX8_release_152 (lv_at hl 4 rfl) ?_
                    refine lv_bipush (v := (nI 20)) hx hb dX8_release_154 (by decide) ?_
                    refine lv_icmp_ge (tgt := 229) hx hb dX8_release_156 (by decide) (fun _ => ?_) (fun q => absurd (nI_le (Nat.le_of_eq hkN.symm) (by omega)) q)
                    refine lv_aload_n hx hb dX8_release_229 rfl (lv_at hl 0 rfl) ?_
                    refine xget (C := RX8) (T := TX8) (N := 37) 0 hx hb hts hin8 hown I hR.1 rfl (by decide) (List.mem_of_getElem? (i := 3) rfl) rfl rfl dX8_release_230 ?_
                    refine lv_if_le (tgt := 240) hx hb dX8_release_233 (by decide) (fun _ => ?_) (fun q => absurd (by decide) q)
                    refine lv_iload hx hb dX8_release_240 (lv_at hl 3 rfl) ?_
                    subst hG
                    exact xriQ hx hb hr hlocks dX8_release_242 I hS ⟨rfl, hR, hF⟩
                  | succ n152 ih =>
                    intro k152 σ152 hkn H locs hw I hR hF hS hW si0 hG ls hl
                    have hk : k152 < 20 := by omega
                    have wf152 := hW.1
                    have hG : lbind ((Sum.inl (if (fX8_canRelease σ152 (tn a1) k152) = 0 then σ152 else (mSI (mSL σ152 7 (20 * (tn a1) + k152) ((fX8_dueOf σ152 (tn a1) k152) + (((fX8_base σ152 (tn a1) k152) * (nI (tn a2)).toInt64) / (100 : Int64)))) 6 (20 * (tn a1) + k152) (nI 1))))) (fun q => fX8_release_L152 σ th a1 a2 w107_5 n152 (k152 + 1) q) = G := hG
                    refine lv_iload hx hb dX8_release_152 (lv_at hl 4 rfl) ?_
                    refine lv_bipush (v := (nI 20)) hx hb dX8_release_154 (by decide) ?_
                    refine lv_icmp_ge (tgt := 229) hx hb dX8_release_156 (by decide) (fun q => absurd q (nI_ge hk (by omega))) (fun _ => ?_)
                    refine lv_aload_n hx hb dX8_release_159 rfl (lv_at hl 0 rfl) ?_
                    refine xget (C := RX8) (T := TX8) (N := 37) 0 hx hb hts hin8 hown I hR.1 rfl (by decide) (List.mem_of_getElem? (i := 3) rfl) rfl rfl dX8_release_160 ?_
                    refine lv_if_ne (tgt := 229) hx hb dX8_release_163 (by decide) (fun q => absurd (by decide) q) (fun _ => ?_)
                    refine lv_aload_n hx hb dX8_release_166 rfl (lv_at hl 0 rfl) ?_
                    refine lv_iload_n hx hb dX8_release_167 rfl (lv_at hl 1 rfl) ?_
                    refine xtop (y := .int (nI (tn a1))) (congrArg Value.int e_a1) ?_
                    refine lv_iload hx hb dX8_release_168 (lv_at hl 4 rfl) ?_
                    refine xcvR (As := [.int (nI (tn a1)), .int (nI k152)]) (rest := []) (v := some (.int (fX8_canRelease σ152 (tn a1) k152))) ⟨hx, hb, hml, hown, hts⟩ (mX8_canRelease l lo D E hw σ152 (nI 0) r ar hR hW (tn a1) k152  (by first | assumption | omega) (by first | assumption | omega)) (cwV 2 hts gX8_release_X8_canRelease rfl rfl rfl (by decide +kernel) ⟨Nat.le_of_ble_eq_true rfl, Nat.le_of_ble_eq_true rfl⟩) I hR.1 rfl rfl hl.1 rfl (Nat.le_of_ble_eq_true rfl) dX8_release_170 ⟨Nat.le_of_ble_eq_true rfl, Nat.le_of_ble_eq_true rfl⟩ ?_
                    refine W.eq (g2 := F0 m 173 ls [.int (fX8_canRelease σ152 (tn a1) k152)]) rfl ?_
                    refine lv_if_eq (tgt := 223) hx hb dX8_release_173 (by decide) (fun c_173 => ?_) (fun c_173 => ?_)
                    · skip
                      rw [if_pos c_173] at hG
                      refine lv_iinc (v := (nI (k152 + 1))) (lv' := [(6, .int (nI (k152 + 1))), (0, .ref r), (1, .int a1), (2, .int a2), (5, .int w107_5)]) hx hb dX8_release_223 hl (k := 4) rfl (nI_succ k152).symm (by decide) rfl (fun ls hl => ?_)
                      refine lv_goto (tgt := 152) hx hb dX8_release_226 (by decide) ?_
                      exact ih (k152 + 1) σ152 (by first | omega | (simp only [mSI_N, mSL_N]; omega)) H locs hw I hR hF hS hW (by first | assumption | omega | (simp only [mSI_N, mSL_N, mSI_K, mSL_K]; omega)) hG ls (lv_sub hl [1, 2, 3, 4, 0] rfl)
                    · skip
                      rw [if_neg c_173] at hG
                      refine lv_aload_n hx hb dX8_release_176 rfl (lv_at hl 0 rfl) ?_
                      refine xget (C := RX8) (T := TX8) (N := 37) 7 hx hb hts hin8 hown I hR.1 rfl (by decide) (List.mem_of_getElem? (i := 4) rfl) rfl rfl dX8_release_177 ?_
                      refine lv_bipush (v := (nI 20)) hx hb dX8_release_180 (by decide) ?_
                      refine lv_iload_n hx hb dX8_release_182 rfl (lv_at hl 1 rfl) ?_
                      refine xtop (y := .int (nI (tn a1))) (congrArg Value.int e_a1) ?_
                      refine lv_imul hx hb dX8_release_183 ?_
                      refine xtop (y := .int (nI (20 * (tn a1)))) (congrArg Value.int (pk_mul _ _)) ?_
                      refine lv_iload hx hb dX8_release_184 (lv_at hl 4 rfl) ?_
                      refine lv_iadd hx hb dX8_release_186 ?_
                      refine xtop (y := .int (nI (20 * (tn a1) + k152))) (congrArg Value.int (nI_add _ _)) ?_
                      refine lv_aload_n hx hb dX8_release_187 rfl (lv_at hl 0 rfl) ?_
                      refine lv_iload_n hx hb dX8_release_188 rfl (lv_at hl 1 rfl) ?_
                      refine xtop (y := .int (nI (tn a1))) (congrArg Value.int e_a1) ?_
                      refine lv_iload hx hb dX8_release_189 (lv_at hl 4 rfl) ?_
                      refine xcvR (As := [.int (nI (tn a1)), .int (nI k152)]) (rest := [.int (nI (20 * (tn a1) + k152)), .ref (ar 7)]) (v := some (.long (fX8_dueOf σ152 (tn a1) k152))) ⟨hx, hb, hml, hown, hts⟩ (mX8_dueOf l lo D E hw σ152 (nI 0) r ar hR hW (tn a1) k152  (by first | assumption | omega) (by first | assumption | omega)) (cwV 2 hts gX8_release_X8_dueOf rfl rfl rfl (by decide +kernel) ⟨Nat.le_of_ble_eq_true rfl, Nat.le_of_ble_eq_true rfl⟩) I hR.1 rfl rfl hl.1 rfl (Nat.le_of_ble_eq_true rfl) dX8_release_191 ⟨Nat.le_of_ble_eq_true rfl, Nat.le_of_ble_eq_true rfl⟩ ?_
                      refine W.eq (g2 := F0 m 194 ls [.long (fX8_dueOf σ152 (tn a1) k152), .int (nI (20 * (tn a1) + k152)), .ref (ar 7)]) rfl ?_
                      refine lv_aload_n hx hb dX8_release_194 rfl (lv_at hl 0 rfl) ?_
                      refine lv_iload_n hx hb dX8_release_195 rfl (lv_at hl 1 rfl) ?_
                      refine xtop (y := .int (nI (tn a1))) (congrArg Value.int e_a1) ?_
                      refine lv_iload hx hb dX8_release_196 (lv_at hl 4 rfl) ?_
                      refine xcvR (As := [.int (nI (tn a1)), .int (nI k152)]) (rest := [.long (fX8_dueOf σ152 (tn a1) k152), .int (nI (20 * (tn a1) + k152)), .ref (ar 7)]) (v := some (.long (fX8_base σ152 (tn a1) k152))) ⟨hx, hb, hml, hown, hts⟩ (mX8_base l lo D E hw σ152 (nI 0) r ar hR hW (tn a1) k152  (by first | assumption | omega) (by first | assumption | omega)) (cwV 2 hts gX8_release_X8_base rfl rfl rfl (by decide +kernel) ⟨Nat.le_of_ble_eq_true rfl, Nat.le_of_ble_eq_true rfl⟩) I hR.1 rfl rfl hl.1 rfl (Nat.le_of_ble_eq_true rfl) dX8_release_198 ⟨Nat.le_of_ble_eq_true rfl, Nat.le_of_ble_eq_true rfl⟩ ?_
                      refine W.eq (g2 := F0 m 201 ls [.long (fX8_base σ152 (tn a1) k152), .long (fX8_dueOf σ152 (tn a1) k152), .int (nI (20 * (tn a1) + k152)), .ref (ar 7)]) rfl ?_
                      refine lv_iload_n hx hb dX8_release_201 rfl (lv_at hl 2 rfl) ?_
                      refine xtop (y := .int (nI (tn a2))) (congrArg Value.int e_a2) ?_
                      refine lv_i2l (v := (nI (tn a2)).toInt64) hx hb dX8_release_202 rfl ?_
                      refine lv_lmul hx hb dX8_release_203 ?_
                      refine lv_ldc2 (v := (100 : Int64)) hx hb hown (hts _ (List.mem_of_getElem? (i := 5) rfl)) dX8_release_204 ?_
                      refine lv_ldiv hx hb dX8_release_207 (by decide) ?_
                      refine lv_ladd hx hb dX8_release_208 ?_
                      refine xlM (i := (20 * (tn a1) + k152)) (n := 240) 7 hx hb I hS hR hF (by decide) (by omega) (by decide) dX8_release_209 (fun H locs hw I hR hF hS => ?_)
                      have hW := hW.sL 7 (20 * (tn a1) + k152) ((fX8_dueOf σ152 (tn a1) k152) + (((fX8_base σ152 (tn a1) k152) * (nI (tn a2)).toInt64) / (100 : Int64)))
                      refine lv_aload_n hx hb dX8_release_210 rfl (lv_at hl 0 rfl) ?_
                      refine xget (C := RX8) (T := TX8) (N := 37) 6 hx hb hts hin8 hown I hR.1 rfl (by decide) (List.mem_of_getElem? (i := 6) rfl) rfl rfl dX8_release_211 ?_
                      refine lv_bipush (v := (nI 20)) hx hb dX8_release_214 (by decide) ?_
                      refine lv_iload_n hx hb dX8_release_216 rfl (lv_at hl 1 rfl) ?_
                      refine xtop (y := .int (nI (tn a1))) (congrArg Value.int e_a1) ?_
                      refine lv_imul hx hb dX8_release_217 ?_
                      refine xtop (y := .int (nI (20 * (tn a1)))) (congrArg Value.int (pk_mul _ _)) ?_
                      refine lv_iload hx hb dX8_release_218 (lv_at hl 4 rfl) ?_
                      refine lv_iadd hx hb dX8_release_220 ?_
                      refine xtop (y := .int (nI (20 * (tn a1) + k152))) (congrArg Value.int (nI_add _ _)) ?_
                      refine lv_iconst (v := (nI 1)) hx hb dX8_release_221 (by decide) ?_
                      refine xiM (i := (20 * (tn a1) + k152)) (n := 240) 6 hx hb I hS hR hF (by decide) (by omega) (by decide) dX8_release_222 (fun H locs hw I hR hF hS => ?_)
                      have hW := hW.sI (k := 6) (by decide) (20 * (tn a1) + k152) (nI 1)
                      refine lv_iinc (v := (nI (k152 + 1))) (lv' := [(6, .int (nI (k152 + 1))), (0, .ref r), (1, .int a1), (2, .int a2), (5, .int w107_5)]) hx hb dX8_release_223 hl (k := 4) rfl (nI_succ k152).symm (by decide) rfl (fun ls hl => ?_)
                      refine lv_goto (tgt := 152) hx hb dX8_release_226 (by decide) ?_
                      exact ih (k152 + 1) (mSI (mSL σ152 7 (20 * (tn a1) + k152) ((fX8_dueOf σ152 (tn a1) k152) + (((fX8_base σ152 (tn a1) k152) * (nI (tn a2)).toInt64) / (100 : Int64)))) 6 (20 * (tn a1) + k152) (nI 1)) (by first | omega | (simp only [mSI_N, mSL_N]; omega)) H locs hw I hR hF hS hW (by first | assumption | omega | (simp only [mSI_N, mSL_N, mSI_K, mSL_K]; omega)) hG ls (lv_sub hl [1, 2, 3, 4, 0] rfl)
                exact L152 20 0 σ (by omega) H locs hw I hR hF hS hW (by first | assumption | omega | (simp only [mSI_N, mSL_N, mSI_K, mSL_K]; omega)) hG ls (lv_sub hl [1, 2, 3, 6, 0] rfl)
              · skip
                rw [if_pos c_138] at hG
                refine lv_iconst (v := (nI 3)) hx hb dX8_release_141 (by decide) ?_
                refine lv_goto (tgt := 146) hx hb dX8_release_142 (by decide) ?_
                refine xputM 0 hx hb hts hin8 hown I hS hR hF (by decide) (List.mem_of_getElem? (i := 3) rfl) rfl rfl rfl rfl rfl (hR.putTh _) dX8_release_146 (fun H locs hw I hR hF hS => ?_)
                refine lv_iconst (v := (nI 0)) hx hb dX8_release_149 (by decide) ?_
                refine lv_istore (lv' := [(6, .int (nI 0)), (0, .ref r), (1, .int a1), (2, .int a2), (3, .int (fX8_isMember σ a1)), (4, .int a12_4), (5, .int w107_5)]) hx hb dX8_release_150 hl (by decide) rfl (fun ls hl => ?_)
                refine lv_iload hx hb dX8_release_152 (lv_at hl 0 rfl) ?_
                refine lv_bipush (v := (nI 20)) hx hb dX8_release_154 (by decide) ?_
                refine lv_icmp_ge (tgt := 229) hx hb dX8_release_156 (by decide) (fun q => absurd q (by decide)) (fun _ => ?_)
                refine lv_aload_n hx hb dX8_release_159 rfl (lv_at hl 1 rfl) ?_
                refine xget (C := RX8) (T := TX8) (N := 37) 0 hx hb hts hin8 hown I hR.1 rfl (by decide) (List.mem_of_getElem? (i := 3) rfl) rfl rfl dX8_release_160 ?_
                refine lv_if_ne (tgt := 229) hx hb dX8_release_163 (by decide) (fun _ => ?_) (fun q => absurd q (by decide))
                refine lv_aload_n hx hb dX8_release_229 rfl (lv_at hl 1 rfl) ?_
                refine xget (C := RX8) (T := TX8) (N := 37) 0 hx hb hts hin8 hown I hR.1 rfl (by decide) (List.mem_of_getElem? (i := 3) rfl) rfl rfl dX8_release_230 ?_
                refine lv_if_le (tgt := 240) hx hb dX8_release_233 (by decide) (fun q => absurd q (by decide)) (fun _ => ?_)
                refine lv_iconst (v := (nI 0)) hx hb dX8_release_236 (by decide) ?_
                refine lv_goto (tgt := 242) hx hb dX8_release_237 (by decide) ?_
                subst hG
                exact xriQ hx hb hr hlocks dX8_release_242 I hS ⟨rfl, hR, hF⟩
          · skip
            rw [if_pos c_124] at hG
            refine lv_iconst (v := (nI 2)) hx hb dX8_release_127 (by decide) ?_
            refine lv_goto (tgt := 146) hx hb dX8_release_128 (by decide) ?_
            refine xputM 0 hx hb hts hin8 hown I hS hR hF (by decide) (List.mem_of_getElem? (i := 3) rfl) rfl rfl rfl rfl rfl (hR.putTh _) dX8_release_146 (fun H locs hw I hR hF hS => ?_)
            refine lv_iconst (v := (nI 0)) hx hb dX8_release_149 (by decide) ?_
            refine lv_istore (lv' := [(6, .int (nI 0)), (0, .ref r), (1, .int a1), (2, .int a2), (3, .int (fX8_isMember σ a1)), (4, .int a12_4), (5, .int w107_5)]) hx hb dX8_release_150 hl (by decide) rfl (fun ls hl => ?_)
            refine lv_iload hx hb dX8_release_152 (lv_at hl 0 rfl) ?_
            refine lv_bipush (v := (nI 20)) hx hb dX8_release_154 (by decide) ?_
            refine lv_icmp_ge (tgt := 229) hx hb dX8_release_156 (by decide) (fun q => absurd q (by decide)) (fun _ => ?_)
            refine lv_aload_n hx hb dX8_release_159 rfl (lv_at hl 1 rfl) ?_
            refine xget (C := RX8) (T := TX8) (N := 37) 0 hx hb hts hin8 hown I hR.1 rfl (by decide) (List.mem_of_getElem? (i := 3) rfl) rfl rfl dX8_release_160 ?_
            refine lv_if_ne (tgt := 229) hx hb dX8_release_163 (by decide) (fun _ => ?_) (fun q => absurd q (by decide))
            refine lv_aload_n hx hb dX8_release_229 rfl (lv_at hl 1 rfl) ?_
            refine xget (C := RX8) (T := TX8) (N := 37) 0 hx hb hts hin8 hown I hR.1 rfl (by decide) (List.mem_of_getElem? (i := 3) rfl) rfl rfl dX8_release_230 ?_
            refine lv_if_le (tgt := 240) hx hb dX8_release_233 (by decide) (fun q => absurd q (by decide)) (fun _ => ?_)
            refine lv_iconst (v := (nI 0)) hx hb dX8_release_236 (by decide) ?_
            refine lv_goto (tgt := 242) hx hb dX8_release_237 (by decide) ?_
            subst hG
            exact xriQ hx hb hr hlocks dX8_release_242 I hS ⟨rfl, hR, hF⟩
        · skip
          rw [if_pos c_109] at hG
          refine lv_iconst (v := (nI 1)) hx hb dX8_release_112 (by decide) ?_
          refine lv_goto (tgt := 146) hx hb dX8_release_113 (by decide) ?_
          refine xputM 0 hx hb hts hin8 hown I hS hR hF (by decide) (List.mem_of_getElem? (i := 3) rfl) rfl rfl rfl rfl rfl (hR.putTh _) dX8_release_146 (fun H locs hw I hR hF hS => ?_)
          refine lv_iconst (v := (nI 0)) hx hb dX8_release_149 (by decide) ?_
          refine lv_istore (lv' := [(6, .int (nI 0)), (0, .ref r), (1, .int a1), (2, .int a2), (3, .int (fX8_isMember σ a1)), (4, .int a12_4), (5, .int w107_5)]) hx hb dX8_release_150 hl (by decide) rfl (fun ls hl => ?_)
          refine lv_iload hx hb dX8_release_152 (lv_at hl 0 rfl) ?_
          refine lv_bipush (v := (nI 20)) hx hb dX8_release_154 (by decide) ?_
          refine lv_icmp_ge (tgt := 229) hx hb dX8_release_156 (by decide) (fun q => absurd q (by decide)) (fun _ => ?_)
          refine lv_aload_n hx hb dX8_release_159 rfl (lv_at hl 1 rfl) ?_
          refine xget (C := RX8) (T := TX8) (N := 37) 0 hx hb hts hin8 hown I hR.1 rfl (by decide) (List.mem_of_getElem? (i := 3) rfl) rfl rfl dX8_release_160 ?_
          refine lv_if_ne (tgt := 229) hx hb dX8_release_163 (by decide) (fun _ => ?_) (fun q => absurd q (by decide))
          refine lv_aload_n hx hb dX8_release_229 rfl (lv_at hl 1 rfl) ?_
          refine xget (C := RX8) (T := TX8) (N := 37) 0 hx hb hts hin8 hown I hR.1 rfl (by decide) (List.mem_of_getElem? (i := 3) rfl) rfl rfl dX8_release_230 ?_
          refine lv_if_le (tgt := 240) hx hb dX8_release_233 (by decide) (fun q => absurd q (by decide)) (fun _ => ?_)
          refine lv_iconst (v := (nI 0)) hx hb dX8_release_236 (by decide) ?_
          refine lv_goto (tgt := 242) hx hb dX8_release_237 (by decide) ?_
          subst hG
          exact xriQ hx hb hr hlocks dX8_release_242 I hS ⟨rfl, hR, hF⟩
      have L70 : ∀ (n70 : Nat) (k70 : Nat) (a70_5 : Int32), k70 + n70 = 20 → fX8_release_L70 σ th a1 a2 a12_4 n70 k70 a70_5 = G → ∀ ls : Array Slot, lv_has ls 7 [(0, .ref r), (1, .int a1), (2, .int a2), (3, .int (fX8_isMember σ a1)), (4, .int a12_4), (5, .int a70_5), (6, .int (nI k70))] → W p l e (headSpec wsX8_release ({ frames := 3, cells := 0, slots := 0, locals := 76 } : Room)).room s m ([.ref r, .int a1, .int a2] : List Value).toArray below meth c s.heap [] 0 0 (MQ below (xQ lo D (fun v h' => v = some (.int (G).1) ∧ RM E (G).2.1 (G).2.2 r ar h' ∧ xF r ar h h')) ([.ref r, .int a1, .int a2] : List Value).toArray s 0 0 (xA lo)) (F0 m 70 ls []) := by
        intro n70
        induction n70 with
        | zero =>
          intro k70 a70_5 hkn hG ls hl
          have hkN : k70 = 20 := by omega
          have hG : (fX8_release_B107 σ th a1 a2 a12_4 a70_5) = G := hG
          refine lv_iload hx hb dX8_release_70 (lv_at hl 6 rfl) ?_
          refine lv_bipush (v := (nI 20)) hx hb dX8_release_72 (by decide) ?_
          refine lv_icmp_ge (tgt := 107) hx hb dX8_release_74 (by decide) (fun _ => ?_) (fun q => absurd (nI_le (Nat.le_of_eq hkN.symm) (by omega)) q)
          exact B107 a70_5 hG ls (lv_sub hl [0, 1, 2, 3, 4, 5] rfl)
        | succ n70 ih =>
          intro k70 a70_5 hkn hG ls hl
          have hk : k70 < 20 := by omega
          have hG : lbind ((if (fX8_isMember σ a1) = 0 then (Sum.inr (fX8_release_B107 σ th a1 a2 a12_4 a70_5)) else (Sum.inl (if (fX8_canRelease σ (tn a1) k70) = 0 then (a70_5 + (nI 0)) else (a70_5 + (nI 1)))))) (fun q => fX8_release_L70 σ th a1 a2 a12_4 n70 (k70 + 1) q) = G := hG
          refine lv_iload hx hb dX8_release_70 (lv_at hl 6 rfl) ?_
          refine lv_bipush (v := (nI 20)) hx hb dX8_release_72 (by decide) ?_
          refine lv_icmp_ge (tgt := 107) hx hb dX8_release_74 (by decide) (fun q => absurd q (nI_ge hk (by omega))) (fun _ => ?_)
          refine lv_iload_n hx hb dX8_release_77 rfl (lv_at hl 3 rfl) ?_
          refine lv_if_eq (tgt := 107) hx hb dX8_release_78 (by decide) (fun c_78 => ?_) (fun c_78 => ?_)
          · skip
            rw [if_pos c_78] at hG
            exact B107 a70_5 hG ls (lv_sub hl [0, 1, 2, 3, 4, 5] rfl)
          · skip
            rw [if_neg c_78] at hG
            obtain ⟨e_a1, l_a1⟩ := ok_isMember hW c_78
            refine lv_iload hx hb dX8_release_81 (lv_at hl 5 rfl) ?_
            refine lv_aload_n hx hb dX8_release_83 rfl (lv_at hl 0 rfl) ?_
            refine lv_iload_n hx hb dX8_release_84 rfl (lv_at hl 1 rfl) ?_
            refine xtop (y := .int (nI (tn a1))) (congrArg Value.int e_a1) ?_
            refine lv_iload hx hb dX8_release_85 (lv_at hl 6 rfl) ?_
            refine xcvR (As := [.int (nI (tn a1)), .int (nI k70)]) (rest := [.int a70_5]) (v := some (.int (fX8_canRelease σ (tn a1) k70))) ⟨hx, hb, hml, hown, hts⟩ (mX8_canRelease l lo D E h σ th r ar hR hW (tn a1) k70  (by first | assumption | omega) (by first | assumption | omega)) (cwV 2 hts gX8_release_X8_canRelease rfl rfl rfl (by decide +kernel) ⟨Nat.le_of_ble_eq_true rfl, Nat.le_of_ble_eq_true rfl⟩) I hR.1 rfl rfl hl.1 rfl (Nat.le_of_ble_eq_true rfl) dX8_release_87 ⟨Nat.le_of_ble_eq_true rfl, Nat.le_of_ble_eq_true rfl⟩ ?_
            refine W.eq (g2 := F0 m 90 ls [.int (fX8_canRelease σ (tn a1) k70), .int a70_5]) rfl ?_
            refine lv_if_eq (tgt := 97) hx hb dX8_release_90 (by decide) (fun c_90 => ?_) (fun c_90 => ?_)
            · skip
              rw [if_pos c_90] at hG
              refine lv_iconst (v := (nI 0)) hx hb dX8_release_97 (by decide) ?_
              refine lv_iadd hx hb dX8_release_98 ?_
              refine lv_istore (lv' := [(5, .int (a70_5 + (nI 0))), (0, .ref r), (1, .int a1), (2, .int a2), (3, .int (fX8_isMember σ a1)), (4, .int a12_4), (6, .int (nI k70))]) hx hb dX8_release_99 hl (by decide) rfl (fun ls hl => ?_)
              refine lv_iinc (v := (nI (k70 + 1))) (lv' := [(6, .int (nI (k70 + 1))), (5, .int (a70_5 + (nI 0))), (0, .ref r), (1, .int a1), (2, .int a2), (3, .int (fX8_isMember σ a1)), (4, .int a12_4)]) hx hb dX8_release_101 hl (k := 6) rfl (nI_succ k70).symm (by decide) rfl (fun ls hl => ?_)
              refine lv_goto (tgt := 70) hx hb dX8_release_104 (by decide) ?_
              exact ih (k70 + 1) (a70_5 + (nI 0)) (by first | omega | (simp only [mSI_N, mSL_N]; omega)) hG ls (lv_sub hl [2, 3, 4, 5, 6, 1, 0] rfl)
            · skip
              rw [if_neg c_90] at hG
              refine lv_iconst (v := (nI 1)) hx hb dX8_release_93 (by decide) ?_
              refine lv_goto (tgt := 98) hx hb dX8_release_94 (by decide) ?_
              refine lv_iadd hx hb dX8_release_98 ?_
              refine lv_istore (lv' := [(5, .int (a70_5 + (nI 1))), (0, .ref r), (1, .int a1), (2, .int a2), (3, .int (fX8_isMember σ a1)), (4, .int a12_4), (6, .int (nI k70))]) hx hb dX8_release_99 hl (by decide) rfl (fun ls hl => ?_)
              refine lv_iinc (v := (nI (k70 + 1))) (lv' := [(6, .int (nI (k70 + 1))), (5, .int (a70_5 + (nI 1))), (0, .ref r), (1, .int a1), (2, .int a2), (3, .int (fX8_isMember σ a1)), (4, .int a12_4)]) hx hb dX8_release_101 hl (k := 6) rfl (nI_succ k70).symm (by decide) rfl (fun ls hl => ?_)
              refine lv_goto (tgt := 70) hx hb dX8_release_104 (by decide) ?_
              exact ih (k70 + 1) (a70_5 + (nI 1)) (by first | omega | (simp only [mSI_N, mSL_N]; omega)) hG ls (lv_sub hl [2, 3, 4, 5, 6, 1, 0] rfl)
      exact L70 20 0 (nI 0) (by omega) hG ls (lv_sub hl [2, 3, 4, 5, 6, 1, 0] rfl)
    | succ n12 ih =>
      intro k12 a12_4 hkn za12_4 hG ls hl
      have hk : k12 < mN σ 8 := by omega
      have hG : lseq ((if a12_4 = 0 then (if (fX8_isMember σ a1) = 0 then (nI 0) else (if (nI (mK σ 9 k12)) = (nI (tn a1)) then (if (fX8_open σ (nI k12)) = (-1) then (nI 0) else (nI 1)) else (nI 0))) else (nI 1))) (fun q => fX8_release_L12 σ th a1 a2 n12 (k12 + 1) q) = G := hG
      refine lv_iload hx hb dX8_release_12 (lv_at hl 5 rfl) ?_
      refine lv_aload_n hx hb dX8_release_14 rfl (lv_at hl 0 rfl) ?_
      refine xget (C := RX8) (T := TX8) (N := 37) 8 hx hb hts hin8 hown I hR.1 rfl (by decide) (List.mem_of_getElem? (i := 1) rfl) rfl rfl dX8_release_15 ?_
      refine lv_icmp_ge (tgt := 64) hx hb dX8_release_18 (by decide) (fun q => absurd q (nI_ge hk (by omega))) (fun _ => ?_)
      refine lv_iload hx hb dX8_release_21 (lv_at hl 4 rfl) ?_
      refine lv_if_ne (tgt := 51) hx hb dX8_release_23 (by decide) (fun c_23 => ?_) (fun c_23 => ?_)
      · skip
        rw [if_neg c_23] at hG
        refine lv_iconst (v := (nI 1)) hx hb dX8_release_51 (by decide) ?_
        refine lv_goto (tgt := 56) hx hb dX8_release_52 (by decide) ?_
        refine lv_istore (lv' := [(4, .int (nI 1)), (0, .ref r), (1, .int a1), (2, .int a2), (3, .int (fX8_isMember σ a1)), (5, .int (nI k12))]) hx hb dX8_release_56 hl (by decide) rfl (fun ls hl => ?_)
        refine lv_iinc (v := (nI (k12 + 1))) (lv' := [(5, .int (nI (k12 + 1))), (4, .int (nI 1)), (0, .ref r), (1, .int a1), (2, .int a2), (3, .int (fX8_isMember σ a1))]) hx hb dX8_release_58 hl (k := 5) rfl (nI_succ k12).symm (by decide) rfl (fun ls hl => ?_)
        refine lv_goto (tgt := 12) hx hb dX8_release_61 (by decide) ?_
        exact ih (k12 + 1) (nI 1) (by first | omega | (simp only [mSI_N, mSL_N]; omega)) (Or.inr rfl) hG ls (lv_sub hl [2, 3, 4, 5, 1, 0] rfl)
      · skip
        rw [if_pos c_23] at hG
        refine lv_iload_n hx hb dX8_release_26 rfl (lv_at hl 3 rfl) ?_
        refine lv_if_eq (tgt := 55) hx hb dX8_release_27 (by decide) (fun c_27 => ?_) (fun c_27 => ?_)
        · skip
          rw [if_pos c_27] at hG
          refine lv_iconst (v := (nI 0)) hx hb dX8_release_55 (by decide) ?_
          refine lv_istore (lv' := [(4, .int (nI 0)), (0, .ref r), (1, .int a1), (2, .int a2), (3, .int (fX8_isMember σ a1)), (5, .int (nI k12))]) hx hb dX8_release_56 hl (by decide) rfl (fun ls hl => ?_)
          refine lv_iinc (v := (nI (k12 + 1))) (lv' := [(5, .int (nI (k12 + 1))), (4, .int (nI 0)), (0, .ref r), (1, .int a1), (2, .int a2), (3, .int (fX8_isMember σ a1))]) hx hb dX8_release_58 hl (k := 5) rfl (nI_succ k12).symm (by decide) rfl (fun ls hl => ?_)
          refine lv_goto (tgt := 12) hx hb dX8_release_61 (by decide) ?_
          exact ih (k12 + 1) (nI 0) (by first | omega | (simp only [mSI_N, mSL_N]; omega)) (Or.inl rfl) hG ls (lv_sub hl [2, 3, 4, 5, 1, 0] rfl)
        · skip
          rw [if_neg c_27] at hG
          obtain ⟨e_a1, l_a1⟩ := ok_isMember hW c_27
          refine lv_aload_n hx hb dX8_release_30 rfl (lv_at hl 0 rfl) ?_
          refine xget (C := RX8) (T := TX8) (N := 37) 9 hx hb hts hin8 hown I hR.1 rfl (by decide) (List.mem_of_getElem? (i := 2) rfl) rfl rfl dX8_release_31 ?_
          refine lv_iload hx hb dX8_release_34 (lv_at hl 5 rfl) ?_
          refine xiald (i := k12) (n := 24) hx hb I (hR.2.2.1 9 24 (by decide)) (by omega) (by decide) dX8_release_36 ?_
          have b36 := w9 k12 (by omega)
          refine lv_iload_n hx hb dX8_release_37 rfl (lv_at hl 1 rfl) ?_
          refine xtop (y := .int (nI (tn a1))) (congrArg Value.int e_a1) ?_
          refine lv_icmp_ne (tgt := 55) hx hb dX8_release_38 (by decide) (fun c_38 => ?_) (fun c_38 => ?_)
          · skip
            rw [if_neg c_38] at hG
            refine lv_iconst (v := (nI 0)) hx hb dX8_release_55 (by decide) ?_
            refine lv_istore (lv' := [(4, .int (nI 0)), (0, .ref r), (1, .int a1), (2, .int a2), (3, .int (fX8_isMember σ a1)), (5, .int (nI k12))]) hx hb dX8_release_56 hl (by decide) rfl (fun ls hl => ?_)
            refine lv_iinc (v := (nI (k12 + 1))) (lv' := [(5, .int (nI (k12 + 1))), (4, .int (nI 0)), (0, .ref r), (1, .int a1), (2, .int a2), (3, .int (fX8_isMember σ a1))]) hx hb dX8_release_58 hl (k := 5) rfl (nI_succ k12).symm (by decide) rfl (fun ls hl => ?_)
            refine lv_goto (tgt := 12) hx hb dX8_release_61 (by decide) ?_
            exact ih (k12 + 1) (nI 0) (by first | omega | (simp only [mSI_N, mSL_N]; omega)) (Or.inl rfl) hG ls (lv_sub hl [2, 3, 4, 5, 1, 0] rfl)
          · skip
            rw [if_pos c_38] at hG
            refine lv_aload_n hx hb dX8_release_41 rfl (lv_at hl 0 rfl) ?_
            refine lv_iload hx hb dX8_release_42 (lv_at hl 5 rfl) ?_
            refine xcvR (As := [.int (nI k12)]) (rest := []) (v := some (.int (fX8_open σ (nI k12)))) ⟨hx, hb, hml, hown, hts⟩ (mX8_open l lo D E h σ th r ar hR hW (nI k12)  ) (cwV 1 hts gX8_release_X8_open rfl rfl rfl (by decide +kernel) ⟨Nat.le_of_ble_eq_true rfl, Nat.le_of_ble_eq_true rfl⟩) I hR.1 rfl rfl hl.1 rfl (Nat.le_of_ble_eq_true rfl) dX8_release_44 ⟨Nat.le_of_ble_eq_true rfl, Nat.le_of_ble_eq_true rfl⟩ ?_
            refine W.eq (g2 := F0 m 47 ls [.int (fX8_open σ (nI k12))]) rfl ?_
            refine lv_iconst (v := (-1)) hx hb dX8_release_47 (by decide) ?_
            refine lv_icmp_eq (tgt := 55) hx hb dX8_release_48 (by decide) (fun c_48 => ?_) (fun c_48 => ?_)
            · skip
              rw [if_pos c_48] at hG
              refine lv_iconst (v := (nI 0)) hx hb dX8_release_55 (by decide) ?_
              refine lv_istore (lv' := [(4, .int (nI 0)), (0, .ref r), (1, .int a1), (2, .int a2), (3, .int (fX8_isMember σ a1)), (5, .int (nI k12))]) hx hb dX8_release_56 hl (by decide) rfl (fun ls hl => ?_)
              refine lv_iinc (v := (nI (k12 + 1))) (lv' := [(5, .int (nI (k12 + 1))), (4, .int (nI 0)), (0, .ref r), (1, .int a1), (2, .int a2), (3, .int (fX8_isMember σ a1))]) hx hb dX8_release_58 hl (k := 5) rfl (nI_succ k12).symm (by decide) rfl (fun ls hl => ?_)
              refine lv_goto (tgt := 12) hx hb dX8_release_61 (by decide) ?_
              exact ih (k12 + 1) (nI 0) (by first | omega | (simp only [mSI_N, mSL_N]; omega)) (Or.inl rfl) hG ls (lv_sub hl [2, 3, 4, 5, 1, 0] rfl)
            · skip
              rw [if_neg c_48] at hG
              refine lv_iconst (v := (nI 1)) hx hb dX8_release_51 (by decide) ?_
              refine lv_goto (tgt := 56) hx hb dX8_release_52 (by decide) ?_
              refine lv_istore (lv' := [(4, .int (nI 1)), (0, .ref r), (1, .int a1), (2, .int a2), (3, .int (fX8_isMember σ a1)), (5, .int (nI k12))]) hx hb dX8_release_56 hl (by decide) rfl (fun ls hl => ?_)
              refine lv_iinc (v := (nI (k12 + 1))) (lv' := [(5, .int (nI (k12 + 1))), (4, .int (nI 1)), (0, .ref r), (1, .int a1), (2, .int a2), (3, .int (fX8_isMember σ a1))]) hx hb dX8_release_58 hl (k := 5) rfl (nI_succ k12).symm (by decide) rfl (fun ls hl => ?_)
              refine lv_goto (tgt := 12) hx hb dX8_release_61 (by decide) ?_
              exact ih (k12 + 1) (nI 1) (by first | omega | (simp only [mSI_N, mSL_N]; omega)) (Or.inr rfl) hG ls (lv_sub hl [2, 3, 4, 5, 1, 0] rfl)
  exact L12 (mN σ 8) 0 (nI 0) (by omega) (Or.inl rfl) hG ls (lv_sub hl [3, 4, 5, 2, 1, 0] rfl)

def fX8_parts_S166 (σ : MT) (th : Int32) (x1 : Int64) (y1 : Nat) (k166 : Nat) (a166_6 : Int64) (σ166 : MT) : ((Int64 × MT) ⊕ MT × Int32) := (if a166_6 ≤ (0 : Int64) then (Sum.inr (σ166, th)) else (Sum.inl ((if (mI σ166 6 (20 * k166 + y1)) = (nI 2) then (a166_6 - (1 : Int64)) else (a166_6 - (0 : Int64))), (if (mI σ166 6 (20 * k166 + y1)) = (nI 2) then (mSL σ166 7 (20 * k166 + y1) ((mL σ166 7 (20 * k166 + y1)) + (1 : Int64))) else (mSL σ166 7 (20 * k166 + y1) ((mL σ166 7 (20 * k166 + y1)) + (0 : Int64)))))))
def fX8_parts_L166 (σ : MT) (th : Int32) (x1 : Int64) (y1 : Nat) : Nat → Nat → Int64 → MT → MT × Int32
  | 0, k166, a166_6, σ166 => (σ166, th)
  | n166 + 1, k166, a166_6, σ166 => lbind (fX8_parts_S166 σ th x1 y1 k166 a166_6 σ166) (fun q => fX8_parts_L166 σ th x1 y1 n166 (k166 + 1) q.1 q.2)
def fX8_parts_S76 (σ : MT) (th : Int32) (x1 : Int64) (y1 : Nat) (a6_4 : Int64) (k76 : Nat) (a76_6 : Int64) (σ76 : MT) : (Int64 × MT) := ((if (mI σ76 6 (20 * k76 + y1)) = 0 then (if (fX8_weightOf σ76 k76 y1) ≤ (0 : Int64) then a76_6 else (a76_6 - (mL (mSI (mSL σ76 7 (20 * k76 + y1) (fX8_down (x1 * (fX8_weightOf σ76 k76 y1)) a6_4)) 6 (20 * k76 + y1) (nI 2)) 7 (20 * k76 + y1)))) else a76_6), (if (mI σ76 6 (20 * k76 + y1)) = 0 then (if (fX8_weightOf σ76 k76 y1) ≤ (0 : Int64) then σ76 else (mSI (mSL σ76 7 (20 * k76 + y1) (fX8_down (x1 * (fX8_weightOf σ76 k76 y1)) a6_4)) 6 (20 * k76 + y1) (nI 2))) else σ76))
def fX8_parts_L76 (σ : MT) (th : Int32) (x1 : Int64) (y1 : Nat) (a6_4 : Int64) : Nat → Nat → Int64 → MT → MT × Int32
  | 0, k76, a76_6, σ76 => (fX8_parts_L166 σ th x1 y1 (mN σ76 2) 0 a76_6 σ76)
  | n76 + 1, k76, a76_6, σ76 => lseq (fX8_parts_S76 σ th x1 y1 a6_4 k76 a76_6 σ76) (fun q => fX8_parts_L76 σ th x1 y1 a6_4 n76 (k76 + 1) q.1 q.2)
def fX8_parts_S6 (σ : MT) (th : Int32) (x1 : Int64) (y1 : Nat) (k6 : Nat) (a6_4 : Int64) : (Int64) := (if (mI σ 6 (20 * k6 + y1)) = 0 then (a6_4 + (fX8_weightOf σ k6 y1)) else (a6_4 + (0 : Int64)))
def fX8_parts_L6 (σ : MT) (th : Int32) (x1 : Int64) (y1 : Nat) : Nat → Nat → Int64 → MT × Int32
  | 0, k6, a6_4 => (if a6_4 = (0 : Int64) then ((mSL σ 35 0 ((mL σ 35 0) - x1)), th) else (fX8_parts_L76 σ th x1 y1 a6_4 (mN σ 2) 0 x1 σ))
  | n6 + 1, k6, a6_4 => lseq (fX8_parts_S6 σ th x1 y1 k6 a6_4) (fun q => fX8_parts_L6 σ th x1 y1 n6 (k6 + 1) q)
def fX8_parts (σ : MT) (th : Int32) (x1 : Int64) (y1 : Nat) : MT × Int32 := (fX8_parts_L6 σ th x1 y1 (mN σ 2) 0 (0 : Int64))
set_option maxHeartbeats 4000000 in
set_option maxRecDepth 100000 in
theorem mX8_parts (l : Launch) (lo : Nat) (D : va_G) (E : Nat → ClassId) (h : XW) (σ : MT) (th : Int32) (r : Nat) (ar : Nat → Nat) (hR : RM E σ th r ar h) (hW : MW σ) (x1 : Int64) (y1 : Nat) (hy : y1 < 20) : Met l yX8_parts wsX8_parts ({ frames := 1, cells := 0, slots := 0, locals := 29 } : Room) (xP lo D E h [.ref r, .long x1, .int (nI y1)]) (xQ lo D (fun v h' => v = none ∧ RM E (fX8_parts σ th x1 y1).1 (fX8_parts σ th x1 y1).2 r ar h' ∧ xF r ar h h')) 0 0 (xA lo) := by
  obtain ⟨G, hG⟩ : ∃ G, fX8_parts σ th x1 y1 = G := ⟨_, rfl⟩
  rw [hG]
  unfold fX8_parts at hG
  refine Met.ofW (cc := cX8_parts) (maxL := 10) (ret := none) (by decide) rfl ?_
  intro p e s m args below meth c s₁ B hml hv
  obtain ⟨rfl, I⟩ := hv
  have hx := B.exec
  have hb := B.bytes
  have hr := B.returns
  have hts := atoms_spec (ws := wsX8_parts) B.pre
  have hown : s.vm.findClass RX8 = some m.cls := findClass_of_methodNamed B.named
  have hlocks := B.notSynchronized
  have hl := lv_entry ([.ref r, .long x1, .int (nI y1)] : List Value) (n := 10) (Nat.le_of_ble_eq_true rfl)
  rw [lg_entry_eq]
  generalize (lg_sl ([.ref r, .long x1, .int (nI y1)] : List Value) ++ List.replicate (10 - (lg_sl ([.ref r, .long x1, .int (nI y1)] : List Value)).length) Slot.unset).toArray = ls at hl ⊢
  have hl : lv_has ls 10 [(0, .ref r), (1, .long x1), (3, .int (nI y1))] := hl
  have hin8 : ∀ w ∈ u_ws RX8 TX8 37, w ∈ wsX8_parts := fun _ h => List.mem_cons_of_mem _ (List.mem_append_right _ (h))
  have hW0 := hW
  obtain ⟨⟨w1, w2, w3, w4, w5, w6, w7⟩, w9, w12, w21, w22, w23, w25, w31, z26, z27, z28, z36⟩ := id hW
  have hS : va_S (xA lo) s.heap s.heap [] := va_S.rf
  have hF : xF r ar h h := xF.rf
  refine lv_lconst (v := (0 : Int64)) hx hb dX8_parts_0 rfl ?_
  refine lv_lstore (lv' := [(4, .long (0 : Int64)), (0, .ref r), (1, .long x1), (3, .int (nI y1))]) hx hb dX8_parts_1 hl (by decide) rfl (fun ls hl => ?_)
  refine lv_iconst (v := (nI 0)) hx hb dX8_parts_3 (by decide) ?_
  refine lv_istore (lv' := [(6, .int (nI 0)), (4, .long (0 : Int64)), (0, .ref r), (1, .long x1), (3, .int (nI y1))]) hx hb dX8_parts_4 hl (by decide) rfl (fun ls hl => ?_)
  have L6 : ∀ (n6 : Nat) (k6 : Nat) (a6_4 : Int64), k6 + n6 = mN σ 2 → fX8_parts_L6 σ th x1 y1 n6 k6 a6_4 = G → ∀ ls : Array Slot, lv_has ls 10 [(0, .ref r), (1, .long x1), (3, .int (nI y1)), (4, .long a6_4), (6, .int (nI k6))] → W p l e (headSpec wsX8_parts ({ frames := 1, cells := 0, slots := 0, locals := 29 } : Room)).room s m ([.ref r, .long x1, .int (nI y1)] : List Value).toArray below meth c s.heap [] 0 0 (MQ below (xQ lo D (fun v h' => v = none ∧ RM E (G).1 (G).2 r ar h' ∧ xF r ar h h')) ([.ref r, .long x1, .int (nI y1)] : List Value).toArray s 0 0 (xA lo)) (F0 m 6 ls []) := by
    intro n6
    induction n6 with
    | zero =>
      intro k6 a6_4 hkn hG ls hl
      have hkN : k6 = mN σ 2 := by omega
      have hG : (if a6_4 = (0 : Int64) then ((mSL σ 35 0 ((mL σ 35 0) - x1)), th) else (fX8_parts_L76 σ th x1 y1 a6_4 (mN σ 2) 0 x1 σ)) = G := hG
      refine lv_iload hx hb dX8_parts_6 (lv_at hl 4 rfl) ?_
      refine lv_aload_n hx hb dX8_parts_8 rfl (lv_at hl 0 rfl) ?_
      refine xget (C := RX8) (T := TX8) (N := 37) 2 hx hb hts hin8 hown I hR.1 rfl (by decide) (List.mem_of_getElem? (i := 1) rfl) rfl rfl dX8_parts_9 ?_
      refine lv_icmp_ge (tgt := 52) hx hb dX8_parts_12 (by decide) (fun _ => ?_) (fun q => absurd (nI_le (Nat.le_of_eq hkN.symm) (by omega)) q)
      refine lv_lload hx hb dX8_parts_52 (lv_at hl 3 rfl) ?_
      refine lv_lconst (v := (0 : Int64)) hx hb dX8_parts_54 rfl ?_
      refine xl_ne (tgt := 70) hx hb dX8_parts_55 dX8_parts_56 (by decide) (fun c_55 => ?_) (fun c_55 => ?_)
      · skip
        rw [if_neg c_55] at hG
        refine lv_lload_n hx hb dX8_parts_70 rfl (lv_at hl 1 rfl) ?_
        refine lv_lstore (lv' := [(6, .long x1), (0, .ref r), (1, .long x1), (3, .int (nI y1)), (4, .long a6_4)]) hx hb dX8_parts_71 hl (by decide) rfl (fun ls hl => ?_)
        refine lv_iconst (v := (nI 0)) hx hb dX8_parts_73 (by decide) ?_
        refine lv_istore (lv' := [(8, .int (nI 0)), (6, .long x1), (0, .ref r), (1, .long x1), (3, .int (nI y1)), (4, .long a6_4)]) hx hb dX8_parts_74 hl (by decide) rfl (fun ls hl => ?_)
        have L76 : ∀ (n76 : Nat) (k76 : Nat) (a76_6 : Int64) (σ76 : MT), k76 + n76 = mN σ76 2 → ∀ (H : Heap) (locs : List Loc) (hw : XW), XI lo D E hw s H → RM E σ76 th r ar hw → xF r ar h hw → va_S (xA lo) s.heap H locs → MW σ76 → fX8_parts_L76 σ th x1 y1 a6_4 n76 k76 a76_6 σ76 = G → ∀ ls : Array Slot, lv_has ls 10 [(0, .ref r), (1, .long x1), (3, .int (nI y1)), (4, .long a6_4), (6, .long a76_6), (8, .int (nI k76))] → W p l e (headSpec wsX8_parts ({ frames := 1, cells := 0, slots := 0, locals := 29 } : Room)).room s m ([.ref r, .long x1, .int (nI y1)] : List Value).toArray below meth c H locs 0 0 (MQ below (xQ lo D (fun v h' => v = none ∧ RM E (G).1 (G).2 r ar h' ∧ xF r ar h h')) ([.ref r, .long x1, .int (nI y1)] : List Value).toArray s 0 0 (xA lo)) (F0 m 76 ls []) := by
          intro n76
          induction n76 with
          | zero =>
            intro k76 a76_6 σ76 hkn H locs hw I hR hF hS hW hG ls hl
            have hkN : k76 = mN σ76 2 := by omega
            have wf76 := hW.1
            have hG : (fX8_parts_L166 σ th x1 y1 (mN σ76 2) 0 a76_6 σ76) = G := hG
            refine lv_iload hx hb dX8_parts_76 (lv_at hl 5 rfl) ?_
            refine lv_aload_n hx hb dX8_parts_78 rfl (lv_at hl 0 rfl) ?_
            refine xget (C := RX8) (T := TX8) (N := 37) 2 hx hb hts hin8 hown I hR.1 rfl (by decide) (List.mem_of_getElem? (i := 1) rfl) rfl rfl dX8_parts_79 ?_
            refine lv_icmp_ge (tgt := 163) hx hb dX8_parts_82 (by decide) (fun _ => ?_) (fun q => absurd (nI_le (Nat.le_of_eq hkN.symm) (by omega)) q)
            refine lv_iconst (v := (nI 0)) hx hb dX8_parts_163 (by decide) ?_
            refine lv_istore (lv' := [(8, .int (nI 0)), (0, .ref r), (1, .long x1), (3, .int (nI y1)), (4, .long a6_4), (6, .long a76_6)]) hx hb dX8_parts_164 hl (by decide) rfl (fun ls hl => ?_)
            have L166 : ∀ (n166 : Nat) (k166 : Nat) (a166_6 : Int64) (σ166 : MT), k166 + n166 = mN σ166 2 → ∀ (H : Heap) (locs : List Loc) (hw : XW), XI lo D E hw s H → RM E σ166 th r ar hw → xF r ar h hw → va_S (xA lo) s.heap H locs → MW σ166 → fX8_parts_L166 σ th x1 y1 n166 k166 a166_6 σ166 = G → ∀ ls : Array Slot, lv_has ls 10 [(0, .ref r), (3, .int (nI y1)), (6, .long a166_6), (8, .int (nI k166))] → W p l e (headSpec wsX8_parts ({ frames := 1, cells := 0, slots := 0, locals := 29 } : Room)).room s m ([.ref r, .long x1, .int (nI y1)] : List Value).toArray below meth c H locs 0 0 (MQ below (xQ lo D (fun v h' => v = none ∧ RM E (G).1 (G).2 r ar h' ∧ xF r ar h h')) ([.ref r, .long x1, .int (nI y1)] : List Value).toArray s 0 0 (xA lo)) (F0 m 166 ls []) := by
              intro n166
              induction n166 with
              | zero =>
                intro k166 a166_6 σ166 hkn H locs hw I hR hF hS hW hG ls hl
                have hkN : k166 = mN σ166 2 := by omega
                have wf166 := hW.1
                have hG : (σ166, th) = G := hG
                refine lv_iload hx hb dX8_parts_166 (lv_at hl 3 rfl) ?_
                refine lv_aload_n hx hb dX8_parts_168 rfl (lv_at hl 0 rfl) ?_
                refine xget (C := RX8) (T := TX8) (N := 37) 2 hx hb hts hin8 hown I hR.1 rfl (by decide) (List.mem_of_getElem? (i := 1) rfl) rfl rfl dX8_parts_169 ?_
                refine lv_icmp_ge (tgt := 251) hx hb dX8_parts_172 (by decide) (fun _ => ?_) (fun q => absurd (nI_le (Nat.le_of_eq hkN.symm) (by omega)) q)
                subst hG
                exact xrvQ hx hb hr hlocks dX8_parts_251 I hS ⟨rfl, hR, hF⟩
              | succ n166 ih =>
                intro k166 a166_6 σ166 hkn H locs hw I hR hF hS hW hG ls hl
                have hk : k166 < mN σ166 2 := by omega
                have wf166 := hW.1
                have hG : lbind ((if a166_6 ≤ (0 : Int64) then (Sum.inr (σ166, th)) else (Sum.inl ((if (mI σ166 6 (20 * k166 + y1)) = (nI 2) then (a166_6 - (1 : Int64)) else (a166_6 - (0 : Int64))), (if (mI σ166 6 (20 * k166 + y1)) = (nI 2) then (mSL σ166 7 (20 * k166 + y1) ((mL σ166 7 (20 * k166 + y1)) + (1 : Int64))) else (mSL σ166 7 (20 * k166 + y1) ((mL σ166 7 (20 * k166 + y1)) + (0 : Int64)))))))) (fun q => fX8_parts_L166 σ th x1 y1 n166 (k166 + 1) q.1 q.2) = G := hG
                refine lv_iload hx hb dX8_parts_166 (lv_at hl 3 rfl) ?_
                refine lv_aload_n hx hb dX8_parts_168 rfl (lv_at hl 0 rfl) ?_
                refine xget (C := RX8) (T := TX8) (N := 37) 2 hx hb hts hin8 hown I hR.1 rfl (by decide) (List.mem_of_getElem? (i := 1) rfl) rfl rfl dX8_parts_169 ?_
                refine lv_icmp_ge (tgt := 251) hx hb dX8_parts_172 (by decide) (fun q => absurd q (nI_ge hk (by omega))) (fun _ => ?_)
                refine lv_lload hx hb dX8_parts_175 (lv_at hl 2 rfl) ?_
                refine lv_lconst (v := (0 : Int64)) hx hb dX8_parts_177 rfl ?_
                refine xl_le (tgt := 251) hx hb dX8_parts_178 dX8_parts_179 (by decide) (fun c_178 => ?_) (fun c_178 => ?_)
                · skip
                  rw [if_pos c_178] at hG
                  subst hG
                  exact xrvQ hx hb hr hlocks dX8_parts_251 I hS ⟨rfl, hR, hF⟩
                · skip
                  rw [if_neg c_178] at hG
                  refine lv_aload_n hx hb dX8_parts_182 rfl (lv_at hl 0 rfl) ?_
                  refine xget (C := RX8) (T := TX8) (N := 37) 6 hx hb hts hin8 hown I hR.1 rfl (by decide) (List.mem_of_getElem? (i := 2) rfl) rfl rfl dX8_parts_183 ?_
                  refine lv_bipush (v := (nI 20)) hx hb dX8_parts_186 (by decide) ?_
                  refine lv_iload hx hb dX8_parts_188 (lv_at hl 3 rfl) ?_
                  refine lv_imul hx hb dX8_parts_190 ?_
                  refine xtop (y := .int (nI (20 * k166))) (congrArg Value.int (pk_mul _ _)) ?_
                  refine lv_iload_n hx hb dX8_parts_191 rfl (lv_at hl 1 rfl) ?_
                  refine lv_iadd hx hb dX8_parts_192 ?_
                  refine xtop (y := .int (nI (20 * k166 + y1))) (congrArg Value.int (nI_add _ _)) ?_
                  refine xiald (i := (20 * k166 + y1)) (n := 240) hx hb I (hR.2.1 6 240 (by decide)) (by omega) (by decide) dX8_parts_193 ?_
                  refine lv_iconst (v := (nI 2)) hx hb dX8_parts_194 (by decide) ?_
                  refine lv_icmp_ne (tgt := 202) hx hb dX8_parts_195 (by decide) (fun c_195 => ?_) (fun c_195 => ?_)
                  · skip
                    rw [if_neg c_195] at hG; rw [if_neg c_195] at hG
                    refine lv_iconst (v := (nI 0)) hx hb dX8_parts_202 (by decide) ?_
                    refine lv_istore (lv' := [(9, .int (nI 0)), (0, .ref r), (3, .int (nI y1)), (6, .long a166_6), (8, .int (nI k166))]) hx hb dX8_parts_203 hl (by decide) rfl (fun ls hl => ?_)
                    refine lv_aload_n hx hb dX8_parts_205 rfl (lv_at hl 1 rfl) ?_
                    refine xget (C := RX8) (T := TX8) (N := 37) 7 hx hb hts hin8 hown I hR.1 rfl (by decide) (List.mem_of_getElem? (i := 4) rfl) rfl rfl dX8_parts_206 ?_
                    refine lv_bipush (v := (nI 20)) hx hb dX8_parts_209 (by decide) ?_
                    refine lv_iload hx hb dX8_parts_211 (lv_at hl 4 rfl) ?_
                    refine lv_imul hx hb dX8_parts_213 ?_
                    refine xtop (y := .int (nI (20 * k166))) (congrArg Value.int (pk_mul _ _)) ?_
                    refine lv_iload_n hx hb dX8_parts_214 rfl (lv_at hl 2 rfl) ?_
                    refine lv_iadd hx hb dX8_parts_215 ?_
                    refine xtop (y := .int (nI (20 * k166 + y1))) (congrArg Value.int (nI_add _ _)) ?_
                    refine lv_dup2_11 hx hb dX8_parts_216 rfl rfl ?_
                    refine xlald (i := (20 * k166 + y1)) (n := 240) hx hb I (hR.2.2.2.1 7 240 (by decide)) (by omega) (by decide) dX8_parts_217 ?_
                    refine lv_iload hx hb dX8_parts_218 (lv_at hl 0 rfl) ?_
                    refine lv_if_eq (tgt := 227) hx hb dX8_parts_220 (by decide) (fun _ => ?_) (fun q => absurd (by decide) q)
                    refine lv_lconst (v := (0 : Int64)) hx hb dX8_parts_227 rfl ?_
                    refine lv_ladd hx hb dX8_parts_228 ?_
                    refine xlM (i := (20 * k166 + y1)) (n := 240) 7 hx hb I hS hR hF (by decide) (by omega) (by decide) dX8_parts_229 (fun H locs hw I hR hF hS => ?_)
                    have hW := hW.sL 7 (20 * k166 + y1) ((mL σ166 7 (20 * k166 + y1)) + (0 : Int64))
                    refine lv_lload hx hb dX8_parts_230 (lv_at hl 3 rfl) ?_
                    refine lv_iload hx hb dX8_parts_232 (lv_at hl 0 rfl) ?_
                    refine lv_if_eq (tgt := 241) hx hb dX8_parts_234 (by decide) (fun _ => ?_) (fun q => absurd (by decide) q)
                    refine lv_lconst (v := (0 : Int64)) hx hb dX8_parts_241 rfl ?_
                    refine lv_lsub hx hb dX8_parts_242 ?_
                    refine lv_lstore (lv' := [(6, .long (a166_6 - (0 : Int64))), (9, .int (nI 0)), (0, .ref r), (3, .int (nI y1)), (8, .int (nI k166))]) hx hb dX8_parts_243 hl (by decide) rfl (fun ls hl => ?_)
                    refine lv_iinc (v := (nI (k166 + 1))) (lv' := [(8, .int (nI (k166 + 1))), (6, .long (a166_6 - (0 : Int64))), (9, .int (nI 0)), (0, .ref r), (3, .int (nI y1))]) hx hb dX8_parts_245 hl (k := 4) rfl (nI_succ k166).symm (by decide) rfl (fun ls hl => ?_)
                    refine lv_goto (tgt := 166) hx hb dX8_parts_248 (by decide) ?_
                    exact ih (k166 + 1) (a166_6 - (0 : Int64)) (mSL σ166 7 (20 * k166 + y1) ((mL σ166 7 (20 * k166 + y1)) + (0 : Int64))) (by first | omega | (simp only [mSI_N, mSL_N]; omega)) H locs hw I hR hF hS hW hG ls (lv_sub hl [3, 4, 1, 0] rfl)
                  · skip
                    rw [if_pos c_195] at hG; rw [if_pos c_195] at hG
                    refine lv_iconst (v := (nI 1)) hx hb dX8_parts_198 (by decide) ?_
                    refine lv_goto (tgt := 203) hx hb dX8_parts_199 (by decide) ?_
                    refine lv_istore (lv' := [(9, .int (nI 1)), (0, .ref r), (3, .int (nI y1)), (6, .long a166_6), (8, .int (nI k166))]) hx hb dX8_parts_203 hl (by decide) rfl (fun ls hl => ?_)
                    refine lv_aload_n hx hb dX8_parts_205 rfl (lv_at hl 1 rfl) ?_
                    refine xget (C := RX8) (T := TX8) (N := 37) 7 hx hb hts hin8 hown I hR.1 rfl (by decide) (List.mem_of_getElem? (i := 4) rfl) rfl rfl dX8_parts_206 ?_
                    refine lv_bipush (v := (nI 20)) hx hb dX8_parts_209 (by decide) ?_
                    refine lv_iload hx hb dX8_parts_211 (lv_at hl 4 rfl) ?_
                    refine lv_imul hx hb dX8_parts_213 ?_
                    refine xtop (y := .int (nI (20 * k166))) (congrArg Value.int (pk_mul _ _)) ?_
                    refine lv_iload_n hx hb dX8_parts_214 rfl (lv_at hl 2 rfl) ?_
                    refine lv_iadd hx hb dX8_parts_215 ?_
                    refine xtop (y := .int (nI (20 * k166 + y1))) (congrArg Value.int (nI_add _ _)) ?_
                    refine lv_dup2_11 hx hb dX8_parts_216 rfl rfl ?_
                    refine xlald (i := (20 * k166 + y1)) (n := 240) hx hb I (hR.2.2.2.1 7 240 (by decide)) (by omega) (by decide) dX8_parts_217 ?_
                    refine lv_iload hx hb dX8_parts_218 (lv_at hl 0 rfl) ?_
                    refine lv_if_eq (tgt := 227) hx hb dX8_parts_220 (by decide) (fun q => absurd q (by decide)) (fun _ => ?_)
                    refine lv_lconst (v := (1 : Int64)) hx hb dX8_parts_223 rfl ?_
                    refine lv_goto (tgt := 228) hx hb dX8_parts_224 (by decide) ?_
                    refine lv_ladd hx hb dX8_parts_228 ?_
                    refine xlM (i := (20 * k166 + y1)) (n := 240) 7 hx hb I hS hR hF (by decide) (by omega) (by decide) dX8_parts_229 (fun H locs hw I hR hF hS => ?_)
                    have hW := hW.sL 7 (20 * k166 + y1) ((mL σ166 7 (20 * k166 + y1)) + (1 : Int64))
                    refine lv_lload hx hb dX8_parts_230 (lv_at hl 3 rfl) ?_
                    refine lv_iload hx hb dX8_parts_232 (lv_at hl 0 rfl) ?_
                    refine lv_if_eq (tgt := 241) hx hb dX8_parts_234 (by decide) (fun q => absurd q (by decide)) (fun _ => ?_)
                    refine lv_lconst (v := (1 : Int64)) hx hb dX8_parts_237 rfl ?_
                    refine lv_goto (tgt := 242) hx hb dX8_parts_238 (by decide) ?_
                    refine lv_lsub hx hb dX8_parts_242 ?_
                    refine lv_lstore (lv' := [(6, .long (a166_6 - (1 : Int64))), (9, .int (nI 1)), (0, .ref r), (3, .int (nI y1)), (8, .int (nI k166))]) hx hb dX8_parts_243 hl (by decide) rfl (fun ls hl => ?_)
                    refine lv_iinc (v := (nI (k166 + 1))) (lv' := [(8, .int (nI (k166 + 1))), (6, .long (a166_6 - (1 : Int64))), (9, .int (nI 1)), (0, .ref r), (3, .int (nI y1))]) hx hb dX8_parts_245 hl (k := 4) rfl (nI_succ k166).symm (by decide) rfl (fun ls hl => ?_)
                    refine lv_goto (tgt := 166) hx hb dX8_parts_248 (by decide) ?_
                    exact ih (k166 + 1) (a166_6 - (1 : Int64)) (mSL σ166 7 (20 * k166 + y1) ((mL σ166 7 (20 * k166 + y1)) + (1 : Int64))) (by first | omega | (simp only [mSI_N, mSL_N]; omega)) H locs hw I hR hF hS hW hG ls (lv_sub hl [3, 4, 1, 0] rfl)
            exact L166 (mN σ76 2) 0 a76_6 σ76 (by omega) H locs hw I hR hF hS hW hG ls (lv_sub hl [1, 3, 5, 0] rfl)
          | succ n76 ih =>
            intro k76 a76_6 σ76 hkn H locs hw I hR hF hS hW hG ls hl
            have hk : k76 < mN σ76 2 := by omega
            have wf76 := hW.1
            have hG : lseq (((if (mI σ76 6 (20 * k76 + y1)) = 0 then (if (fX8_weightOf σ76 k76 y1) ≤ (0 : Int64) then a76_6 else (a76_6 - (mL (mSI (mSL σ76 7 (20 * k76 + y1) (fX8_down (x1 * (fX8_weightOf σ76 k76 y1)) a6_4)) 6 (20 * k76 + y1) (nI 2)) 7 (20 * k76 + y1)))) else a76_6), (if (mI σ76 6 (20 * k76 + y1)) = 0 then (if (fX8_weightOf σ76 k76 y1) ≤ (0 : Int64) then σ76 else (mSI (mSL σ76 7 (20 * k76 + y1) (fX8_down (x1 * (fX8_weightOf σ76 k76 y1)) a6_4)) 6 (20 * k76 + y1) (nI 2))) else σ76))) (fun q => fX8_parts_L76 σ th x1 y1 a6_4 n76 (k76 + 1) q.1 q.2) = G := hG
            refine lv_iload hx hb dX8_parts_76 (lv_at hl 5 rfl) ?_
            refine lv_aload_n hx hb dX8_parts_78 rfl (lv_at hl 0 rfl) ?_
            refine xget (C := RX8) (T := TX8) (N := 37) 2 hx hb hts hin8 hown I hR.1 rfl (by decide) (List.mem_of_getElem? (i := 1) rfl) rfl rfl dX8_parts_79 ?_
            refine lv_icmp_ge (tgt := 163) hx hb dX8_parts_82 (by decide) (fun q => absurd q (nI_ge hk (by omega))) (fun _ => ?_)
            refine lv_bipush (v := (nI 20)) hx hb dX8_parts_85 (by decide) ?_
            refine lv_iload hx hb dX8_parts_87 (lv_at hl 5 rfl) ?_
            refine lv_imul hx hb dX8_parts_89 ?_
            refine xtop (y := .int (nI (20 * k76))) (congrArg Value.int (pk_mul _ _)) ?_
            refine lv_iload_n hx hb dX8_parts_90 rfl (lv_at hl 2 rfl) ?_
            refine lv_iadd hx hb dX8_parts_91 ?_
            refine xtop (y := .int (nI (20 * k76 + y1))) (congrArg Value.int (nI_add _ _)) ?_
            refine lv_istore (lv' := [(9, .int (nI (20 * k76 + y1))), (0, .ref r), (1, .long x1), (3, .int (nI y1)), (4, .long a6_4), (6, .long a76_6), (8, .int (nI k76))]) hx hb dX8_parts_92 hl (by decide) rfl (fun ls hl => ?_)
            refine lv_aload_n hx hb dX8_parts_94 rfl (lv_at hl 1 rfl) ?_
            refine xget (C := RX8) (T := TX8) (N := 37) 6 hx hb hts hin8 hown I hR.1 rfl (by decide) (List.mem_of_getElem? (i := 2) rfl) rfl rfl dX8_parts_95 ?_
            refine lv_iload hx hb dX8_parts_98 (lv_at hl 0 rfl) ?_
            refine xiald (i := (20 * k76 + y1)) (n := 240) hx hb I (hR.2.1 6 240 (by decide)) (by omega) (by decide) dX8_parts_100 ?_
            refine lv_if_ne (tgt := 157) hx hb dX8_parts_101 (by decide) (fun c_101 => ?_) (fun c_101 => ?_)
            · skip
              rw [if_neg c_101] at hG; rw [if_neg c_101] at hG
              refine lv_iinc (v := (nI (k76 + 1))) (lv' := [(8, .int (nI (k76 + 1))), (9, .int (nI (20 * k76 + y1))), (0, .ref r), (1, .long x1), (3, .int (nI y1)), (4, .long a6_4), (6, .long a76_6)]) hx hb dX8_parts_157 hl (k := 6) rfl (nI_succ k76).symm (by decide) rfl (fun ls hl => ?_)
              refine lv_goto (tgt := 76) hx hb dX8_parts_160 (by decide) ?_
              exact ih (k76 + 1) a76_6 σ76 (by first | omega | (simp only [mSI_N, mSL_N]; omega)) H locs hw I hR hF hS hW hG ls (lv_sub hl [2, 3, 4, 5, 6, 0] rfl)
            · skip
              rw [if_pos c_101] at hG; rw [if_pos c_101] at hG
              refine lv_aload_n hx hb dX8_parts_104 rfl (lv_at hl 1 rfl) ?_
              refine lv_iload hx hb dX8_parts_105 (lv_at hl 6 rfl) ?_
              refine lv_iload_n hx hb dX8_parts_107 rfl (lv_at hl 3 rfl) ?_
              refine xcvR (As := [.int (nI k76), .int (nI y1)]) (rest := []) (v := some (.long (fX8_weightOf σ76 k76 y1))) ⟨hx, hb, hml, hown, hts⟩ (mX8_weightOf l lo D E hw σ76 th r ar hR hW k76 y1  (by first | assumption | omega) (by first | assumption | omega)) (cwV 2 hts gX8_parts_X8_weightOf rfl rfl rfl (by decide +kernel) ⟨Nat.le_of_ble_eq_true rfl, Nat.le_of_ble_eq_true rfl⟩) I hR.1 rfl rfl hl.1 rfl (Nat.le_of_ble_eq_true rfl) dX8_parts_108 ⟨Nat.le_of_ble_eq_true rfl, Nat.le_of_ble_eq_true rfl⟩ ?_
              refine W.eq (g2 := F0 m 111 ls [.long (fX8_weightOf σ76 k76 y1)]) rfl ?_
              refine lv_lconst (v := (0 : Int64)) hx hb dX8_parts_111 rfl ?_
              refine xl_le (tgt := 157) hx hb dX8_parts_112 dX8_parts_113 (by decide) (fun c_112 => ?_) (fun c_112 => ?_)
              · skip
                rw [if_pos c_112] at hG; rw [if_pos c_112] at hG
                refine lv_iinc (v := (nI (k76 + 1))) (lv' := [(8, .int (nI (k76 + 1))), (9, .int (nI (20 * k76 + y1))), (0, .ref r), (1, .long x1), (3, .int (nI y1)), (4, .long a6_4), (6, .long a76_6)]) hx hb dX8_parts_157 hl (k := 6) rfl (nI_succ k76).symm (by decide) rfl (fun ls hl => ?_)
                refine lv_goto (tgt := 76) hx hb dX8_parts_160 (by decide) ?_
                exact ih (k76 + 1) a76_6 σ76 (by first | omega | (simp only [mSI_N, mSL_N]; omega)) H locs hw I hR hF hS hW hG ls (lv_sub hl [2, 3, 4, 5, 6, 0] rfl)
              · skip
                rw [if_neg c_112] at hG; rw [if_neg c_112] at hG
                refine lv_aload_n hx hb dX8_parts_116 rfl (lv_at hl 1 rfl) ?_
                refine xget (C := RX8) (T := TX8) (N := 37) 7 hx hb hts hin8 hown I hR.1 rfl (by decide) (List.mem_of_getElem? (i := 4) rfl) rfl rfl dX8_parts_117 ?_
                refine lv_iload hx hb dX8_parts_120 (lv_at hl 0 rfl) ?_
                refine lv_lload_n hx hb dX8_parts_122 rfl (lv_at hl 2 rfl) ?_
                refine lv_aload_n hx hb dX8_parts_123 rfl (lv_at hl 1 rfl) ?_
                refine lv_iload hx hb dX8_parts_124 (lv_at hl 6 rfl) ?_
                refine lv_iload_n hx hb dX8_parts_126 rfl (lv_at hl 3 rfl) ?_
                refine xcvR (As := [.int (nI k76), .int (nI y1)]) (rest := [.long x1, .int (nI (20 * k76 + y1)), .ref (ar 7)]) (v := some (.long (fX8_weightOf σ76 k76 y1))) ⟨hx, hb, hml, hown, hts⟩ (mX8_weightOf l lo D E hw σ76 th r ar hR hW k76 y1  (by first | assumption | omega) (by first | assumption | omega)) (cwV 2 hts gX8_parts_X8_weightOf rfl rfl rfl (by decide +kernel) ⟨Nat.le_of_ble_eq_true rfl, Nat.le_of_ble_eq_true rfl⟩) I hR.1 rfl rfl hl.1 rfl (Nat.le_of_ble_eq_true rfl) dX8_parts_127 ⟨Nat.le_of_ble_eq_true rfl, Nat.le_of_ble_eq_true rfl⟩ ?_
                refine W.eq (g2 := F0 m 130 ls [.long (fX8_weightOf σ76 k76 y1), .long x1, .int (nI (20 * k76 + y1)), .ref (ar 7)]) rfl ?_
                refine lv_lmul hx hb dX8_parts_130 ?_
                refine lv_lload hx hb dX8_parts_131 (lv_at hl 4 rfl) ?_
                refine xcsR (As := [.long (x1 * (fX8_weightOf σ76 k76 y1)), .long a6_4]) (rest := [.int (nI (20 * k76 + y1)), .ref (ar 7)]) (v := some (.long (fX8_down (x1 * (fX8_weightOf σ76 k76 y1)) a6_4))) ⟨hx, hb, hml, hown, hts⟩ (mX8_down l lo D E hw  (x1 * (fX8_weightOf σ76 k76 y1)) a6_4  (by first | assumption | omega)) (va_cwS 2 hts gX8_parts_X8_down rfl rfl rfl (by decide +kernel) ⟨Nat.le_of_ble_eq_true rfl, Nat.le_of_ble_eq_true rfl⟩) I rfl hl.1 rfl (Nat.le_of_ble_eq_true rfl) dX8_parts_133 ⟨Nat.le_of_ble_eq_true rfl, Nat.le_of_ble_eq_true rfl⟩ ?_
                refine W.eq (g2 := F0 m 136 ls [.long (fX8_down (x1 * (fX8_weightOf σ76 k76 y1)) a6_4), .int (nI (20 * k76 + y1)), .ref (ar 7)]) rfl ?_
                refine xlM (i := (20 * k76 + y1)) (n := 240) 7 hx hb I hS hR hF (by decide) (by omega) (by decide) dX8_parts_136 (fun H locs hw I hR hF hS => ?_)
                have hW := hW.sL 7 (20 * k76 + y1) (fX8_down (x1 * (fX8_weightOf σ76 k76 y1)) a6_4)
                refine lv_aload_n hx hb dX8_parts_137 rfl (lv_at hl 1 rfl) ?_
                refine xget (C := RX8) (T := TX8) (N := 37) 6 hx hb hts hin8 hown I hR.1 rfl (by decide) (List.mem_of_getElem? (i := 2) rfl) rfl rfl dX8_parts_138 ?_
                refine lv_iload hx hb dX8_parts_141 (lv_at hl 0 rfl) ?_
                refine lv_iconst (v := (nI 2)) hx hb dX8_parts_143 (by decide) ?_
                refine xiM (i := (20 * k76 + y1)) (n := 240) 6 hx hb I hS hR hF (by decide) (by omega) (by decide) dX8_parts_144 (fun H locs hw I hR hF hS => ?_)
                have hW := hW.sI (k := 6) (by decide) (20 * k76 + y1) (nI 2)
                refine lv_lload hx hb dX8_parts_145 (lv_at hl 5 rfl) ?_
                refine lv_aload_n hx hb dX8_parts_147 rfl (lv_at hl 1 rfl) ?_
                refine xget (C := RX8) (T := TX8) (N := 37) 7 hx hb hts hin8 hown I hR.1 rfl (by decide) (List.mem_of_getElem? (i := 4) rfl) rfl rfl dX8_parts_148 ?_
                refine lv_iload hx hb dX8_parts_151 (lv_at hl 0 rfl) ?_
                refine xlald (i := (20 * k76 + y1)) (n := 240) hx hb I (hR.2.2.2.1 7 240 (by decide)) (by omega) (by decide) dX8_parts_153 ?_
                refine lv_lsub hx hb dX8_parts_154 ?_
                refine lv_lstore (lv' := [(6, .long (a76_6 - (mL (mSI (mSL σ76 7 (20 * k76 + y1) (fX8_down (x1 * (fX8_weightOf σ76 k76 y1)) a6_4)) 6 (20 * k76 + y1) (nI 2)) 7 (20 * k76 + y1)))), (9, .int (nI (20 * k76 + y1))), (0, .ref r), (1, .long x1), (3, .int (nI y1)), (4, .long a6_4), (8, .int (nI k76))]) hx hb dX8_parts_155 hl (by decide) rfl (fun ls hl => ?_)
                refine lv_iinc (v := (nI (k76 + 1))) (lv' := [(8, .int (nI (k76 + 1))), (6, .long (a76_6 - (mL (mSI (mSL σ76 7 (20 * k76 + y1) (fX8_down (x1 * (fX8_weightOf σ76 k76 y1)) a6_4)) 6 (20 * k76 + y1) (nI 2)) 7 (20 * k76 + y1)))), (9, .int (nI (20 * k76 + y1))), (0, .ref r), (1, .long x1), (3, .int (nI y1)), (4, .long a6_4)]) hx hb dX8_parts_157 hl (k := 6) rfl (nI_succ k76).symm (by decide) rfl (fun ls hl => ?_)
                refine lv_goto (tgt := 76) hx hb dX8_parts_160 (by decide) ?_
                exact ih (k76 + 1) (a76_6 - (mL (mSI (mSL σ76 7 (20 * k76 + y1) (fX8_down (x1 * (fX8_weightOf σ76 k76 y1)) a6_4)) 6 (20 * k76 + y1) (nI 2)) 7 (20 * k76 + y1))) (mSI (mSL σ76 7 (20 * k76 + y1) (fX8_down (x1 * (fX8_weightOf σ76 k76 y1)) a6_4)) 6 (20 * k76 + y1) (nI 2)) (by first | omega | (simp only [mSI_N, mSL_N]; omega)) H locs hw I hR hF hS hW hG ls (lv_sub hl [3, 4, 5, 6, 1, 0] rfl)
        exact L76 (mN σ 2) 0 x1 σ (by omega) s.heap [] h I hR hF hS hW hG ls (lv_sub hl [2, 3, 4, 5, 1, 0] rfl)
      · skip
        rw [if_pos c_55] at hG
        refine lv_aload_n hx hb dX8_parts_59 rfl (lv_at hl 0 rfl) ?_
        refine lv_dup hx hb dX8_parts_60 rfl ?_
        refine xget (C := RX8) (T := TX8) (N := 37) 35 hx hb hts hin8 hown I hR.1 rfl (by decide) (List.mem_of_getElem? (i := 3) rfl) rfl rfl dX8_parts_61 ?_
        refine lv_lload_n hx hb dX8_parts_64 rfl (lv_at hl 1 rfl) ?_
        refine lv_lsub hx hb dX8_parts_65 ?_
        refine xputM 35 hx hb hts hin8 hown I hS hR hF (by decide) (List.mem_of_getElem? (i := 3) rfl) rfl rfl rfl rfl rfl (hR.putR _) dX8_parts_66 (fun H locs hw I hR hF hS => ?_)
        have hW := hW.sL 35 0 ((mL σ 35 0) - x1)
        subst hG
        exact xrvQ hx hb hr hlocks dX8_parts_69 I hS ⟨rfl, hR, hF⟩
    | succ n6 ih =>
      intro k6 a6_4 hkn hG ls hl
      have hk : k6 < mN σ 2 := by omega
      have hG : lseq ((if (mI σ 6 (20 * k6 + y1)) = 0 then (a6_4 + (fX8_weightOf σ k6 y1)) else (a6_4 + (0 : Int64)))) (fun q => fX8_parts_L6 σ th x1 y1 n6 (k6 + 1) q) = G := hG
      refine lv_iload hx hb dX8_parts_6 (lv_at hl 4 rfl) ?_
      refine lv_aload_n hx hb dX8_parts_8 rfl (lv_at hl 0 rfl) ?_
      refine xget (C := RX8) (T := TX8) (N := 37) 2 hx hb hts hin8 hown I hR.1 rfl (by decide) (List.mem_of_getElem? (i := 1) rfl) rfl rfl dX8_parts_9 ?_
      refine lv_icmp_ge (tgt := 52) hx hb dX8_parts_12 (by decide) (fun q => absurd q (nI_ge hk (by omega))) (fun _ => ?_)
      refine lv_lload hx hb dX8_parts_15 (lv_at hl 3 rfl) ?_
      refine lv_aload_n hx hb dX8_parts_17 rfl (lv_at hl 0 rfl) ?_
      refine xget (C := RX8) (T := TX8) (N := 37) 6 hx hb hts hin8 hown I hR.1 rfl (by decide) (List.mem_of_getElem? (i := 2) rfl) rfl rfl dX8_parts_18 ?_
      refine lv_bipush (v := (nI 20)) hx hb dX8_parts_21 (by decide) ?_
      refine lv_iload hx hb dX8_parts_23 (lv_at hl 4 rfl) ?_
      refine lv_imul hx hb dX8_parts_25 ?_
      refine xtop (y := .int (nI (20 * k6))) (congrArg Value.int (pk_mul _ _)) ?_
      refine lv_iload_n hx hb dX8_parts_26 rfl (lv_at hl 2 rfl) ?_
      refine lv_iadd hx hb dX8_parts_27 ?_
      refine xtop (y := .int (nI (20 * k6 + y1))) (congrArg Value.int (nI_add _ _)) ?_
      refine xiald (i := (20 * k6 + y1)) (n := 240) hx hb I (hR.2.1 6 240 (by decide)) (by omega) (by decide) dX8_parts_28 ?_
      refine lv_if_ne (tgt := 42) hx hb dX8_parts_29 (by decide) (fun c_29 => ?_) (fun c_29 => ?_)
      · skip
        rw [if_neg c_29] at hG
        refine lv_lconst (v := (0 : Int64)) hx hb dX8_parts_42 rfl ?_
        refine lv_ladd hx hb dX8_parts_43 ?_
        refine lv_lstore (lv' := [(4, .long (a6_4 + (0 : Int64))), (0, .ref r), (1, .long x1), (3, .int (nI y1)), (6, .int (nI k6))]) hx hb dX8_parts_44 hl (by decide) rfl (fun ls hl => ?_)
        refine lv_iinc (v := (nI (k6 + 1))) (lv' := [(6, .int (nI (k6 + 1))), (4, .long (a6_4 + (0 : Int64))), (0, .ref r), (1, .long x1), (3, .int (nI y1))]) hx hb dX8_parts_46 hl (k := 4) rfl (nI_succ k6).symm (by decide) rfl (fun ls hl => ?_)
        refine lv_goto (tgt := 6) hx hb dX8_parts_49 (by decide) ?_
        exact ih (k6 + 1) (a6_4 + (0 : Int64)) (by first | omega | (simp only [mSI_N, mSL_N]; omega)) hG ls (lv_sub hl [2, 3, 4, 1, 0] rfl)
      · skip
        rw [if_pos c_29] at hG
        refine lv_aload_n hx hb dX8_parts_32 rfl (lv_at hl 0 rfl) ?_
        refine lv_iload hx hb dX8_parts_33 (lv_at hl 4 rfl) ?_
        refine lv_iload_n hx hb dX8_parts_35 rfl (lv_at hl 2 rfl) ?_
        refine xcvR (As := [.int (nI k6), .int (nI y1)]) (rest := [.long a6_4]) (v := some (.long (fX8_weightOf σ k6 y1))) ⟨hx, hb, hml, hown, hts⟩ (mX8_weightOf l lo D E h σ th r ar hR hW k6 y1  (by first | assumption | omega) (by first | assumption | omega)) (cwV 2 hts gX8_parts_X8_weightOf rfl rfl rfl (by decide +kernel) ⟨Nat.le_of_ble_eq_true rfl, Nat.le_of_ble_eq_true rfl⟩) I hR.1 rfl rfl hl.1 rfl (Nat.le_of_ble_eq_true rfl) dX8_parts_36 ⟨Nat.le_of_ble_eq_true rfl, Nat.le_of_ble_eq_true rfl⟩ ?_
        refine W.eq (g2 := F0 m 39 ls [.long (fX8_weightOf σ k6 y1), .long a6_4]) rfl ?_
        refine lv_goto (tgt := 43) hx hb dX8_parts_39 (by decide) ?_
        refine lv_ladd hx hb dX8_parts_43 ?_
        refine lv_lstore (lv' := [(4, .long (a6_4 + (fX8_weightOf σ k6 y1))), (0, .ref r), (1, .long x1), (3, .int (nI y1)), (6, .int (nI k6))]) hx hb dX8_parts_44 hl (by decide) rfl (fun ls hl => ?_)
        refine lv_iinc (v := (nI (k6 + 1))) (lv' := [(6, .int (nI (k6 + 1))), (4, .long (a6_4 + (fX8_weightOf σ k6 y1))), (0, .ref r), (1, .long x1), (3, .int (nI y1))]) hx hb dX8_parts_46 hl (k := 4) rfl (nI_succ k6).symm (by decide) rfl (fun ls hl => ?_)
        refine lv_goto (tgt := 6) hx hb dX8_parts_49 (by decide) ?_
        exact ih (k6 + 1) (a6_4 + (fX8_weightOf σ k6 y1)) (by first | omega | (simp only [mSI_N, mSL_N]; omega)) hG ls (lv_sub hl [2, 3, 4, 1, 0] rfl)
  exact L6 (mN σ 2) 0 (0 : Int64) (by omega) hG ls (lv_sub hl [2, 3, 4, 1, 0] rfl)

def fX8_close_S136 (σ : MT) (th : Int32) (a1 : Int32) (σ77 : MT) (k136 : Nat) (a136_5 : Int64) : (Int64) := (if (mI σ77 6 (20 * k136 + (tn a1))) = (nI 1) then (a136_5 - (mL σ77 7 (20 * k136 + (tn a1)))) else (a136_5 - (0 : Int64)))
def fX8_close_L136 (σ : MT) (th : Int32) (a1 : Int32) (σ77 : MT) : Nat → Nat → Int64 → Int64 × MT × Int32
  | 0, k136, a136_5 => ((fX8_costIn σ77 (nI (tn a1))), (mSK ((fX8_parts σ77 (nI 0) a136_5 (tn a1)).1) 34 0 (mN (fX8_parts σ77 (nI 0) a136_5 (tn a1)).1 34 + 1)), (fX8_parts σ77 (nI 0) a136_5 (tn a1)).2)
  | n136 + 1, k136, a136_5 => lseq (fX8_close_S136 σ th a1 σ77 k136 a136_5) (fun q => fX8_close_L136 σ th a1 σ77 n136 (k136 + 1) q)
def fX8_close_S77 (σ : MT) (th : Int32) (a1 : Int32) (k77 : Nat) (σ77 : MT) : (MT) := (if (nI ((mK σ77 23 k77) / 100)) = (nI (tn a1)) then (mSI σ77 28 k77 (vp_nar .boolean (fX8_isCovered σ77 k77))) else (mSI σ77 28 k77 (vp_nar .boolean (mI σ77 28 k77))))
def fX8_close_L77 (σ : MT) (th : Int32) (a1 : Int32) : Nat → Nat → MT → Int64 × MT × Int32
  | 0, k77, σ77 => (fX8_close_L136 σ th a1 σ77 (mN σ77 2) 0 (fX8_costIn σ77 (nI (tn a1))))
  | n77 + 1, k77, σ77 => lseq (fX8_close_S77 σ th a1 k77 σ77) (fun q => fX8_close_L77 σ th a1 n77 (k77 + 1) q)
def fX8_close (σ : MT) (th : Int32) (a1 : Int32) : Int64 × MT × Int32 := (if (fX8_isYear a1) = 0 then ((0 : Int64), σ, (nI 1)) else (if (nI (tn a1)) = (nI (mN σ 34)) then (if (nI (mN σ 1)) < (nI (100 * (tn a1 + 1))) then (if (fX8_isYear (nI (tn a1))) = 0 then ((0 : Int64), σ, (nI 1)) else ((0 : Int64), σ, (nI 2))) else (if (fX8_areAllSettled σ (nI (tn a1))) = 0 then (if (fX8_isYear (nI (tn a1))) = 0 then ((0 : Int64), σ, (nI 1)) else ((0 : Int64), σ, (nI 2))) else (if (fX8_isYear (nI (tn a1))) = 0 then ((0 : Int64), σ, (nI 1)) else (fX8_close_L77 σ th a1 (mN σ 20) 0 σ)))) else (if (fX8_isYear (nI (tn a1))) = 0 then ((0 : Int64), σ, (nI 1)) else ((0 : Int64), σ, (nI 2)))))
set_option maxHeartbeats 4000000 in
set_option maxRecDepth 100000 in
theorem mX8_close (l : Launch) (lo : Nat) (D : va_G) (E : Nat → ClassId) (h : XW) (σ : MT) (th : Int32) (r : Nat) (ar : Nat → Nat) (hR : RM E σ th r ar h) (hW : MW σ) (a1 : Int32) : Met l yX8_close wsX8_close ({ frames := 6, cells := 0, slots := 0, locals := 153 } : Room) (xP lo D E h [.ref r, .int a1]) (xQ lo D (fun v h' => v = some (.long (fX8_close σ th a1).1) ∧ RM E (fX8_close σ th a1).2.1 (fX8_close σ th a1).2.2 r ar h' ∧ xF r ar h h')) 0 0 (xA lo) := by
  obtain ⟨G, hG⟩ : ∃ G, fX8_close σ th a1 = G := ⟨_, rfl⟩
  rw [hG]
  unfold fX8_close at hG
  refine Met.ofW (cc := cX8_close) (maxL := 8) (ret := (some .long)) (by decide) rfl ?_
  intro p e s m args below meth c s₁ B hml hv
  obtain ⟨rfl, I⟩ := hv
  have hx := B.exec
  have hb := B.bytes
  have hr := B.returns
  have hts := atoms_spec (ws := wsX8_close) B.pre
  have hown : s.vm.findClass RX8 = some m.cls := findClass_of_methodNamed B.named
  have hlocks := B.notSynchronized
  have hl := lv_entry ([.ref r, .int a1] : List Value) (n := 8) (Nat.le_of_ble_eq_true rfl)
  rw [lg_entry_eq]
  generalize (lg_sl ([.ref r, .int a1] : List Value) ++ List.replicate (8 - (lg_sl ([.ref r, .int a1] : List Value)).length) Slot.unset).toArray = ls at hl ⊢
  have hl : lv_has ls 8 [(0, .ref r), (1, .int a1)] := hl
  have hin8 : ∀ w ∈ u_ws RX8 TX8 37, w ∈ wsX8_close := fun _ h => List.mem_cons_of_mem _ (List.mem_append_right _ (h))
  have hW0 := hW
  obtain ⟨⟨w1, w2, w3, w4, w5, w6, w7⟩, w9, w12, w21, w22, w23, w25, w31, z26, z27, z28, z36⟩ := id hW
  have hS : va_S (xA lo) s.heap s.heap [] := va_S.rf
  have hF : xF r ar h h := xF.rf
  refine lv_iload_n hx hb dX8_close_0 rfl (lv_at hl 1 rfl) ?_
  refine xcsR (As := [.int a1]) (rest := []) (v := some (.int (fX8_isYear a1))) ⟨hx, hb, hml, hown, hts⟩ (mX8_isYear l lo D E h  a1  ) (va_cwS 1 hts gX8_close_X8_isYear rfl rfl rfl (by decide +kernel) ⟨Nat.le_of_ble_eq_true rfl, Nat.le_of_ble_eq_true rfl⟩) I rfl hl.1 rfl (Nat.le_of_ble_eq_true rfl) dX8_close_1 ⟨Nat.le_of_ble_eq_true rfl, Nat.le_of_ble_eq_true rfl⟩ ?_
  refine W.eq (g2 := F0 m 4 ls [.int (fX8_isYear a1)]) rfl ?_
  refine lv_if_eq (tgt := 40) hx hb dX8_close_4 (by decide) (fun c_4 => ?_) (fun c_4 => ?_)
  · skip
    rw [if_pos c_4] at hG
    refine lv_iconst (v := (nI 0)) hx hb dX8_close_40 (by decide) ?_
    refine lv_istore_n (lv' := [(2, .int (nI 0)), (0, .ref r), (1, .int a1)]) hx hb dX8_close_41 rfl hl (by decide) rfl (fun ls hl => ?_)
    refine lv_aload_n hx hb dX8_close_42 rfl (lv_at hl 1 rfl) ?_
    refine lv_iload_n hx hb dX8_close_43 rfl (lv_at hl 2 rfl) ?_
    refine xcsR (As := [.int a1]) (rest := [.ref r]) (v := some (.int (fX8_isYear a1))) ⟨hx, hb, hml, hown, hts⟩ (mX8_isYear l lo D E h  a1  ) (va_cwS 1 hts gX8_close_X8_isYear rfl rfl rfl (by decide +kernel) ⟨Nat.le_of_ble_eq_true rfl, Nat.le_of_ble_eq_true rfl⟩) I rfl hl.1 rfl (Nat.le_of_ble_eq_true rfl) dX8_close_44 ⟨Nat.le_of_ble_eq_true rfl, Nat.le_of_ble_eq_true rfl⟩ ?_
    refine W.eq (g2 := F0 m 47 ls [.int (fX8_isYear a1), .ref r]) rfl ?_
    refine lv_if_ne (tgt := 54) hx hb dX8_close_47 (by decide) (fun q => absurd c_4 q) (fun _ => ?_)
    refine lv_iconst (v := (nI 1)) hx hb dX8_close_50 (by decide) ?_
    refine lv_goto (tgt := 63) hx hb dX8_close_51 (by decide) ?_
    refine xputM 0 hx hb hts hin8 hown I hS hR hF (by decide) (List.mem_of_getElem? (i := 3) rfl) rfl rfl rfl rfl rfl (hR.putTh _) dX8_close_63 (fun H locs hw I hR hF hS => ?_)
    refine lv_aload_n hx hb dX8_close_66 rfl (lv_at hl 1 rfl) ?_
    refine xget (C := RX8) (T := TX8) (N := 37) 0 hx hb hts hin8 hown I hR.1 rfl (by decide) (List.mem_of_getElem? (i := 3) rfl) rfl rfl dX8_close_67 ?_
    refine lv_if_le (tgt := 75) hx hb dX8_close_70 (by decide) (fun q => absurd q (by decide)) (fun _ => ?_)
    refine lv_lconst (v := (0 : Int64)) hx hb dX8_close_73 rfl ?_
    subst hG
    exact xrlQ hx hb hr hlocks dX8_close_74 I hS ⟨rfl, hR, hF⟩
  · skip
    rw [if_neg c_4] at hG
    obtain ⟨e_a1, l_a1⟩ := ok_isYear c_4
    refine lv_iload_n hx hb dX8_close_7 rfl (lv_at hl 1 rfl) ?_
    refine xtop (y := .int (nI (tn a1))) (congrArg Value.int e_a1) ?_
    refine lv_aload_n hx hb dX8_close_8 rfl (lv_at hl 0 rfl) ?_
    refine xget (C := RX8) (T := TX8) (N := 37) 34 hx hb hts hin8 hown I hR.1 rfl (by decide) (List.mem_of_getElem? (i := 1) rfl) rfl rfl dX8_close_9 ?_
    refine lv_icmp_ne (tgt := 40) hx hb dX8_close_12 (by decide) (fun c_12 => ?_) (fun c_12 => ?_)
    · skip
      rw [if_neg c_12] at hG
      refine lv_iconst (v := (nI 0)) hx hb dX8_close_40 (by decide) ?_
      refine lv_istore_n (lv' := [(2, .int (nI 0)), (0, .ref r), (1, .int a1)]) hx hb dX8_close_41 rfl hl (by decide) rfl (fun ls hl => ?_)
      refine lv_aload_n hx hb dX8_close_42 rfl (lv_at hl 1 rfl) ?_
      refine lv_iload_n hx hb dX8_close_43 rfl (lv_at hl 2 rfl) ?_
      refine xtop (y := .int (nI (tn a1))) (congrArg Value.int e_a1) ?_
      refine xcsR (As := [.int (nI (tn a1))]) (rest := [.ref r]) (v := some (.int (fX8_isYear (nI (tn a1))))) ⟨hx, hb, hml, hown, hts⟩ (mX8_isYear l lo D E h  (nI (tn a1))  ) (va_cwS 1 hts gX8_close_X8_isYear rfl rfl rfl (by decide +kernel) ⟨Nat.le_of_ble_eq_true rfl, Nat.le_of_ble_eq_true rfl⟩) I rfl hl.1 rfl (Nat.le_of_ble_eq_true rfl) dX8_close_44 ⟨Nat.le_of_ble_eq_true rfl, Nat.le_of_ble_eq_true rfl⟩ ?_
      refine W.eq (g2 := F0 m 47 ls [.int (fX8_isYear (nI (tn a1))), .ref r]) rfl ?_
      refine lv_if_ne (tgt := 54) hx hb dX8_close_47 (by decide) (fun c_47 => ?_) (fun c_47 => ?_)
      · skip
        rw [if_neg c_47] at hG
        refine lv_iload_n hx hb dX8_close_54 rfl (lv_at hl 0 rfl) ?_
        refine lv_if_ne (tgt := 62) hx hb dX8_close_55 (by decide) (fun q => absurd (by decide) q) (fun _ => ?_)
        refine lv_iconst (v := (nI 2)) hx hb dX8_close_58 (by decide) ?_
        refine lv_goto (tgt := 63) hx hb dX8_close_59 (by decide) ?_
        refine xputM 0 hx hb hts hin8 hown I hS hR hF (by decide) (List.mem_of_getElem? (i := 3) rfl) rfl rfl rfl rfl rfl (hR.putTh _) dX8_close_63 (fun H locs hw I hR hF hS => ?_)
        refine lv_aload_n hx hb dX8_close_66 rfl (lv_at hl 1 rfl) ?_
        refine xget (C := RX8) (T := TX8) (N := 37) 0 hx hb hts hin8 hown I hR.1 rfl (by decide) (List.mem_of_getElem? (i := 3) rfl) rfl rfl dX8_close_67 ?_
        refine lv_if_le (tgt := 75) hx hb dX8_close_70 (by decide) (fun q => absurd q (by decide)) (fun _ => ?_)
        refine lv_lconst (v := (0 : Int64)) hx hb dX8_close_73 rfl ?_
        subst hG
        exact xrlQ hx hb hr hlocks dX8_close_74 I hS ⟨rfl, hR, hF⟩
      · skip
        rw [if_pos c_47] at hG
        refine lv_iconst (v := (nI 1)) hx hb dX8_close_50 (by decide) ?_
        refine lv_goto (tgt := 63) hx hb dX8_close_51 (by decide) ?_
        refine xputM 0 hx hb hts hin8 hown I hS hR hF (by decide) (List.mem_of_getElem? (i := 3) rfl) rfl rfl rfl rfl rfl (hR.putTh _) dX8_close_63 (fun H locs hw I hR hF hS => ?_)
        refine lv_aload_n hx hb dX8_close_66 rfl (lv_at hl 1 rfl) ?_
        refine xget (C := RX8) (T := TX8) (N := 37) 0 hx hb hts hin8 hown I hR.1 rfl (by decide) (List.mem_of_getElem? (i := 3) rfl) rfl rfl dX8_close_67 ?_
        refine lv_if_le (tgt := 75) hx hb dX8_close_70 (by decide) (fun q => absurd q (by decide)) (fun _ => ?_)
        refine lv_lconst (v := (0 : Int64)) hx hb dX8_close_73 rfl ?_
        subst hG
        exact xrlQ hx hb hr hlocks dX8_close_74 I hS ⟨rfl, hR, hF⟩
    · skip
      rw [if_pos c_12] at hG
      refine lv_aload_n hx hb dX8_close_15 rfl (lv_at hl 0 rfl) ?_
      refine xget (C := RX8) (T := TX8) (N := 37) 1 hx hb hts hin8 hown I hR.1 rfl (by decide) (List.mem_of_getElem? (i := 2) rfl) rfl rfl dX8_close_16 ?_
      refine lv_bipush (v := (nI 100)) hx hb dX8_close_19 (by decide) ?_
      refine lv_iload_n hx hb dX8_close_21 rfl (lv_at hl 1 rfl) ?_
      refine xtop (y := .int (nI (tn a1))) (congrArg Value.int e_a1) ?_
      refine lv_iconst (v := (nI 1)) hx hb dX8_close_22 (by decide) ?_
      refine lv_iadd hx hb dX8_close_23 ?_
      refine xtop (y := .int (nI (tn a1 + 1))) (congrArg Value.int (nI_add _ _)) ?_
      refine lv_imul hx hb dX8_close_24 ?_
      refine xtop (y := .int (nI (100 * (tn a1 + 1)))) (congrArg Value.int (pk_mul _ _)) ?_
      refine lv_icmp_lt (tgt := 40) hx hb dX8_close_25 (by decide) (fun c_25 => ?_) (fun c_25 => ?_)
      · skip
        rw [if_pos c_25] at hG
        refine lv_iconst (v := (nI 0)) hx hb dX8_close_40 (by decide) ?_
        refine lv_istore_n (lv' := [(2, .int (nI 0)), (0, .ref r), (1, .int a1)]) hx hb dX8_close_41 rfl hl (by decide) rfl (fun ls hl => ?_)
        refine lv_aload_n hx hb dX8_close_42 rfl (lv_at hl 1 rfl) ?_
        refine lv_iload_n hx hb dX8_close_43 rfl (lv_at hl 2 rfl) ?_
        refine xtop (y := .int (nI (tn a1))) (congrArg Value.int e_a1) ?_
        refine xcsR (As := [.int (nI (tn a1))]) (rest := [.ref r]) (v := some (.int (fX8_isYear (nI (tn a1))))) ⟨hx, hb, hml, hown, hts⟩ (mX8_isYear l lo D E h  (nI (tn a1))  ) (va_cwS 1 hts gX8_close_X8_isYear rfl rfl rfl (by decide +kernel) ⟨Nat.le_of_ble_eq_true rfl, Nat.le_of_ble_eq_true rfl⟩) I rfl hl.1 rfl (Nat.le_of_ble_eq_true rfl) dX8_close_44 ⟨Nat.le_of_ble_eq_true rfl, Nat.le_of_ble_eq_true rfl⟩ ?_
        refine W.eq (g2 := F0 m 47 ls [.int (fX8_isYear (nI (tn a1))), .ref r]) rfl ?_
        refine lv_if_ne (tgt := 54) hx hb dX8_close_47 (by decide) (fun c_47 => ?_) (fun c_47 => ?_)
        · skip
          rw [if_neg c_47] at hG
          refine lv_iload_n hx hb dX8_close_54 rfl (lv_at hl 0 rfl) ?_
          refine lv_if_ne (tgt := 62) hx hb dX8_close_55 (by decide) (fun q => absurd (by decide) q) (fun _ => ?_)
          refine lv_iconst (v := (nI 2)) hx hb dX8_close_58 (by decide) ?_
          refine lv_goto (tgt := 63) hx hb dX8_close_59 (by decide) ?_
          refine xputM 0 hx hb hts hin8 hown I hS hR hF (by decide) (List.mem_of_getElem? (i := 3) rfl) rfl rfl rfl rfl rfl (hR.putTh _) dX8_close_63 (fun H locs hw I hR hF hS => ?_)
          refine lv_aload_n hx hb dX8_close_66 rfl (lv_at hl 1 rfl) ?_
          refine xget (C := RX8) (T := TX8) (N := 37) 0 hx hb hts hin8 hown I hR.1 rfl (by decide) (List.mem_of_getElem? (i := 3) rfl) rfl rfl dX8_close_67 ?_
          refine lv_if_le (tgt := 75) hx hb dX8_close_70 (by decide) (fun q => absurd q (by decide)) (fun _ => ?_)
          refine lv_lconst (v := (0 : Int64)) hx hb dX8_close_73 rfl ?_
          subst hG
          exact xrlQ hx hb hr hlocks dX8_close_74 I hS ⟨rfl, hR, hF⟩
        · skip
          rw [if_pos c_47] at hG
          refine lv_iconst (v := (nI 1)) hx hb dX8_close_50 (by decide) ?_
          refine lv_goto (tgt := 63) hx hb dX8_close_51 (by decide) ?_
          refine xputM 0 hx hb hts hin8 hown I hS hR hF (by decide) (List.mem_of_getElem? (i := 3) rfl) rfl rfl rfl rfl rfl (hR.putTh _) dX8_close_63 (fun H locs hw I hR hF hS => ?_)
          refine lv_aload_n hx hb dX8_close_66 rfl (lv_at hl 1 rfl) ?_
          refine xget (C := RX8) (T := TX8) (N := 37) 0 hx hb hts hin8 hown I hR.1 rfl (by decide) (List.mem_of_getElem? (i := 3) rfl) rfl rfl dX8_close_67 ?_
          refine lv_if_le (tgt := 75) hx hb dX8_close_70 (by decide) (fun q => absurd q (by decide)) (fun _ => ?_)
          refine lv_lconst (v := (0 : Int64)) hx hb dX8_close_73 rfl ?_
          subst hG
          exact xrlQ hx hb hr hlocks dX8_close_74 I hS ⟨rfl, hR, hF⟩
      · skip
        rw [if_neg c_25] at hG
        refine lv_aload_n hx hb dX8_close_28 rfl (lv_at hl 0 rfl) ?_
        refine lv_iload_n hx hb dX8_close_29 rfl (lv_at hl 1 rfl) ?_
        refine xtop (y := .int (nI (tn a1))) (congrArg Value.int e_a1) ?_
        refine xcvR (As := [.int (nI (tn a1))]) (rest := []) (v := some (.int (fX8_areAllSettled σ (nI (tn a1))))) ⟨hx, hb, hml, hown, hts⟩ (mX8_areAllSettled l lo D E h σ th r ar hR hW (nI (tn a1))  ) (cwV 1 hts gX8_close_X8_areAllSettled rfl rfl rfl (by decide +kernel) ⟨Nat.le_of_ble_eq_true rfl, Nat.le_of_ble_eq_true rfl⟩) I hR.1 rfl rfl hl.1 rfl (Nat.le_of_ble_eq_true rfl) dX8_close_30 ⟨Nat.le_of_ble_eq_true rfl, Nat.le_of_ble_eq_true rfl⟩ ?_
        refine W.eq (g2 := F0 m 33 ls [.int (fX8_areAllSettled σ (nI (tn a1)))]) rfl ?_
        refine lv_if_eq (tgt := 40) hx hb dX8_close_33 (by decide) (fun c_33 => ?_) (fun c_33 => ?_)
        · skip
          rw [if_pos c_33] at hG
          refine lv_iconst (v := (nI 0)) hx hb dX8_close_40 (by decide) ?_
          refine lv_istore_n (lv' := [(2, .int (nI 0)), (0, .ref r), (1, .int a1)]) hx hb dX8_close_41 rfl hl (by decide) rfl (fun ls hl => ?_)
          refine lv_aload_n hx hb dX8_close_42 rfl (lv_at hl 1 rfl) ?_
          refine lv_iload_n hx hb dX8_close_43 rfl (lv_at hl 2 rfl) ?_
          refine xtop (y := .int (nI (tn a1))) (congrArg Value.int e_a1) ?_
          refine xcsR (As := [.int (nI (tn a1))]) (rest := [.ref r]) (v := some (.int (fX8_isYear (nI (tn a1))))) ⟨hx, hb, hml, hown, hts⟩ (mX8_isYear l lo D E h  (nI (tn a1))  ) (va_cwS 1 hts gX8_close_X8_isYear rfl rfl rfl (by decide +kernel) ⟨Nat.le_of_ble_eq_true rfl, Nat.le_of_ble_eq_true rfl⟩) I rfl hl.1 rfl (Nat.le_of_ble_eq_true rfl) dX8_close_44 ⟨Nat.le_of_ble_eq_true rfl, Nat.le_of_ble_eq_true rfl⟩ ?_
          refine W.eq (g2 := F0 m 47 ls [.int (fX8_isYear (nI (tn a1))), .ref r]) rfl ?_
          refine lv_if_ne (tgt := 54) hx hb dX8_close_47 (by decide) (fun c_47 => ?_) (fun c_47 => ?_)
          · skip
            rw [if_neg c_47] at hG
            refine lv_iload_n hx hb dX8_close_54 rfl (lv_at hl 0 rfl) ?_
            refine lv_if_ne (tgt := 62) hx hb dX8_close_55 (by decide) (fun q => absurd (by decide) q) (fun _ => ?_)
            refine lv_iconst (v := (nI 2)) hx hb dX8_close_58 (by decide) ?_
            refine lv_goto (tgt := 63) hx hb dX8_close_59 (by decide) ?_
            refine xputM 0 hx hb hts hin8 hown I hS hR hF (by decide) (List.mem_of_getElem? (i := 3) rfl) rfl rfl rfl rfl rfl (hR.putTh _) dX8_close_63 (fun H locs hw I hR hF hS => ?_)
            refine lv_aload_n hx hb dX8_close_66 rfl (lv_at hl 1 rfl) ?_
            refine xget (C := RX8) (T := TX8) (N := 37) 0 hx hb hts hin8 hown I hR.1 rfl (by decide) (List.mem_of_getElem? (i := 3) rfl) rfl rfl dX8_close_67 ?_
            refine lv_if_le (tgt := 75) hx hb dX8_close_70 (by decide) (fun q => absurd q (by decide)) (fun _ => ?_)
            refine lv_lconst (v := (0 : Int64)) hx hb dX8_close_73 rfl ?_
            subst hG
            exact xrlQ hx hb hr hlocks dX8_close_74 I hS ⟨rfl, hR, hF⟩
          · skip
            rw [if_pos c_47] at hG
            refine lv_iconst (v := (nI 1)) hx hb dX8_close_50 (by decide) ?_
            refine lv_goto (tgt := 63) hx hb dX8_close_51 (by decide) ?_
            refine xputM 0 hx hb hts hin8 hown I hS hR hF (by decide) (List.mem_of_getElem? (i := 3) rfl) rfl rfl rfl rfl rfl (hR.putTh _) dX8_close_63 (fun H locs hw I hR hF hS => ?_)
            refine lv_aload_n hx hb dX8_close_66 rfl (lv_at hl 1 rfl) ?_
            refine xget (C := RX8) (T := TX8) (N := 37) 0 hx hb hts hin8 hown I hR.1 rfl (by decide) (List.mem_of_getElem? (i := 3) rfl) rfl rfl dX8_close_67 ?_
            refine lv_if_le (tgt := 75) hx hb dX8_close_70 (by decide) (fun q => absurd q (by decide)) (fun _ => ?_)
            refine lv_lconst (v := (0 : Int64)) hx hb dX8_close_73 rfl ?_
            subst hG
            exact xrlQ hx hb hr hlocks dX8_close_74 I hS ⟨rfl, hR, hF⟩
        · skip
          rw [if_neg c_33] at hG
          refine lv_iconst (v := (nI 1)) hx hb dX8_close_36 (by decide) ?_
          refine lv_goto (tgt := 41) hx hb dX8_close_37 (by decide) ?_
          refine lv_istore_n (lv' := [(2, .int (nI 1)), (0, .ref r), (1, .int a1)]) hx hb dX8_close_41 rfl hl (by decide) rfl (fun ls hl => ?_)
          refine lv_aload_n hx hb dX8_close_42 rfl (lv_at hl 1 rfl) ?_
          refine lv_iload_n hx hb dX8_close_43 rfl (lv_at hl 2 rfl) ?_
          refine xtop (y := .int (nI (tn a1))) (congrArg Value.int e_a1) ?_
          refine xcsR (As := [.int (nI (tn a1))]) (rest := [.ref r]) (v := some (.int (fX8_isYear (nI (tn a1))))) ⟨hx, hb, hml, hown, hts⟩ (mX8_isYear l lo D E h  (nI (tn a1))  ) (va_cwS 1 hts gX8_close_X8_isYear rfl rfl rfl (by decide +kernel) ⟨Nat.le_of_ble_eq_true rfl, Nat.le_of_ble_eq_true rfl⟩) I rfl hl.1 rfl (Nat.le_of_ble_eq_true rfl) dX8_close_44 ⟨Nat.le_of_ble_eq_true rfl, Nat.le_of_ble_eq_true rfl⟩ ?_
          refine W.eq (g2 := F0 m 47 ls [.int (fX8_isYear (nI (tn a1))), .ref r]) rfl ?_
          refine lv_if_ne (tgt := 54) hx hb dX8_close_47 (by decide) (fun c_47 => ?_) (fun c_47 => ?_)
          · skip
            rw [if_neg c_47] at hG
            refine lv_iload_n hx hb dX8_close_54 rfl (lv_at hl 0 rfl) ?_
            refine lv_if_ne (tgt := 62) hx hb dX8_close_55 (by decide) (fun _ => ?_) (fun q => absurd q (by decide))
            refine lv_iconst (v := (nI 0)) hx hb dX8_close_62 (by decide) ?_
            refine xputM 0 hx hb hts hin8 hown I hS hR hF (by decide) (List.mem_of_getElem? (i := 3) rfl) rfl rfl rfl rfl rfl (hR.putTh _) dX8_close_63 (fun H locs hw I hR hF hS => ?_)
            refine lv_aload_n hx hb dX8_close_66 rfl (lv_at hl 1 rfl) ?_
            refine xget (C := RX8) (T := TX8) (N := 37) 0 hx hb hts hin8 hown I hR.1 rfl (by decide) (List.mem_of_getElem? (i := 3) rfl) rfl rfl dX8_close_67 ?_
            refine lv_if_le (tgt := 75) hx hb dX8_close_70 (by decide) (fun _ => ?_) (fun q => absurd (by decide) q)
            refine lv_iconst (v := (nI 0)) hx hb dX8_close_75 (by decide) ?_
            refine lv_istore_n (lv' := [(3, .int (nI 0)), (2, .int (nI 1)), (0, .ref r), (1, .int a1)]) hx hb dX8_close_76 rfl hl (by decide) rfl (fun ls hl => ?_)
            have L77 : ∀ (n77 : Nat) (k77 : Nat) (σ77 : MT), k77 + n77 = mN σ77 20 → ∀ (H : Heap) (locs : List Loc) (hw : XW), XI lo D E hw s H → RM E σ77 (nI 0) r ar hw → xF r ar h hw → va_S (xA lo) s.heap H locs → MW σ77 → fX8_close_L77 σ th a1 n77 k77 σ77 = G → ∀ ls : Array Slot, lv_has ls 8 [(0, .ref r), (1, .int a1), (3, .int (nI k77))] → W p l e (headSpec wsX8_close ({ frames := 6, cells := 0, slots := 0, locals := 153 } : Room)).room s m ([.ref r, .int a1] : List Value).toArray below meth c H locs 0 0 (MQ below (xQ lo D (fun v h' => v = some (.long (G).1) ∧ RM E (G).2.1 (G).2.2 r ar h' ∧ xF r ar h h')) ([.ref r, .int a1] : List Value).toArray s 0 0 (xA lo)) (F0 m 77 ls []) := by
              intro n77
              induction n77 with
              | zero =>
                intro k77 σ77 hkn H locs hw I hR hF hS hW hG ls hl
                have hkN : k77 = mN σ77 20 := by omega
                have wf77 := hW.1
                have hG : (fX8_close_L136 σ th a1 σ77 (mN σ77 2) 0 (fX8_costIn σ77 (nI (tn a1)))) = G := hG
                refine lv_iload_n hx hb dX8_close_77 rfl (lv_at hl 2 rfl) ?_
                refine lv_aload_n hx hb dX8_close_78 rfl (lv_at hl 0 rfl) ?_
                refine xget (C := RX8) (T := TX8) (N := 37) 20 hx hb hts hin8 hown I hR.1 rfl (by decide) (List.mem_of_getElem? (i := 4) rfl) rfl rfl dX8_close_79 ?_
                refine lv_icmp_ge (tgt := 124) hx hb dX8_close_82 (by decide) (fun _ => ?_) (fun q => absurd (nI_le (Nat.le_of_eq hkN.symm) (by omega)) q)
                refine lv_aload_n hx hb dX8_close_124 rfl (lv_at hl 0 rfl) ?_
                refine lv_iload_n hx hb dX8_close_125 rfl (lv_at hl 1 rfl) ?_
                refine xtop (y := .int (nI (tn a1))) (congrArg Value.int e_a1) ?_
                refine xcvR (As := [.int (nI (tn a1))]) (rest := []) (v := some (.long (fX8_costIn σ77 (nI (tn a1))))) ⟨hx, hb, hml, hown, hts⟩ (mX8_costIn l lo D E hw σ77 (nI 0) r ar hR hW (nI (tn a1))  ) (cwV 1 hts gX8_close_X8_costIn rfl rfl rfl (by decide +kernel) ⟨Nat.le_of_ble_eq_true rfl, Nat.le_of_ble_eq_true rfl⟩) I hR.1 rfl rfl hl.1 rfl (Nat.le_of_ble_eq_true rfl) dX8_close_126 ⟨Nat.le_of_ble_eq_true rfl, Nat.le_of_ble_eq_true rfl⟩ ?_
                refine W.eq (g2 := F0 m 129 ls [.long (fX8_costIn σ77 (nI (tn a1)))]) rfl ?_
                refine lv_lstore_n (lv' := [(3, .long (fX8_costIn σ77 (nI (tn a1)))), (0, .ref r), (1, .int a1)]) hx hb dX8_close_129 rfl hl (by decide) rfl (fun ls hl => ?_)
                refine lv_lload_n hx hb dX8_close_130 rfl (lv_at hl 0 rfl) ?_
                refine lv_lstore (lv' := [(5, .long (fX8_costIn σ77 (nI (tn a1)))), (3, .long (fX8_costIn σ77 (nI (tn a1)))), (0, .ref r), (1, .int a1)]) hx hb dX8_close_131 hl (by decide) rfl (fun ls hl => ?_)
                refine lv_iconst (v := (nI 0)) hx hb dX8_close_133 (by decide) ?_
                refine lv_istore (lv' := [(7, .int (nI 0)), (5, .long (fX8_costIn σ77 (nI (tn a1)))), (3, .long (fX8_costIn σ77 (nI (tn a1)))), (0, .ref r), (1, .int a1)]) hx hb dX8_close_134 hl (by decide) rfl (fun ls hl => ?_)
                have L136 : ∀ (n136 : Nat) (k136 : Nat) (a136_5 : Int64), k136 + n136 = mN σ77 2 → fX8_close_L136 σ th a1 σ77 n136 k136 a136_5 = G → ∀ ls : Array Slot, lv_has ls 8 [(0, .ref r), (1, .int a1), (3, .long (fX8_costIn σ77 (nI (tn a1)))), (5, .long a136_5), (7, .int (nI k136))] → W p l e (headSpec wsX8_close ({ frames := 6, cells := 0, slots := 0, locals := 153 } : Room)).room s m ([.ref r, .int a1] : List Value).toArray below meth c H locs 0 0 (MQ below (xQ lo D (fun v h' => v = some (.long (G).1) ∧ RM E (G).2.1 (G).2.2 r ar h' ∧ xF r ar h h')) ([.ref r, .int a1] : List Value).toArray s 0 0 (xA lo)) (F0 m 136 ls []) := by
                  intro n136
                  induction n136 with
                  | zero =>
                    intro k136 a136_5 hkn hG ls hl
                    have hkN : k136 = mN σ77 2 := by omega
                    have hG : ((fX8_costIn σ77 (nI (tn a1))), (mSK ((fX8_parts σ77 (nI 0) a136_5 (tn a1)).1) 34 0 (mN (fX8_parts σ77 (nI 0) a136_5 (tn a1)).1 34 + 1)), (fX8_parts σ77 (nI 0) a136_5 (tn a1)).2) = G := hG
                    refine lv_iload hx hb dX8_close_136 (lv_at hl 4 rfl) ?_
                    refine lv_aload_n hx hb dX8_close_138 rfl (lv_at hl 0 rfl) ?_
                    refine xget (C := RX8) (T := TX8) (N := 37) 2 hx hb hts hin8 hown I hR.1 rfl (by decide) (List.mem_of_getElem? (i := 7) rfl) rfl rfl dX8_close_139 ?_
                    refine lv_icmp_ge (tgt := 188) hx hb dX8_close_142 (by decide) (fun _ => ?_) (fun q => absurd (nI_le (Nat.le_of_eq hkN.symm) (by omega)) q)
                    refine lv_aload_n hx hb dX8_close_188 rfl (lv_at hl 0 rfl) ?_
                    refine lv_lload hx hb dX8_close_189 (lv_at hl 3 rfl) ?_
                    refine lv_iload_n hx hb dX8_close_191 rfl (lv_at hl 1 rfl) ?_
                    refine xtop (y := .int (nI (tn a1))) (congrArg Value.int e_a1) ?_
                    refine xcvQ (As := [.long a136_5, .int (nI (tn a1))]) (rest := []) ⟨hx, hb, hml, hown, hts⟩ (mX8_parts l lo D E hw σ77 (nI 0) r ar hR hW a136_5 (tn a1) (by first | assumption | omega | (simp [mSK_N, mSI_N, mSL_N]; omega))) (cwV 2 hts gX8_close_X8_parts rfl rfl rfl (by decide +kernel) ⟨Nat.le_of_ble_eq_true rfl, Nat.le_of_ble_eq_true rfl⟩) I hS hR.1 rfl rfl hl.1 rfl (Nat.le_of_ble_eq_true rfl) dX8_close_192 ⟨Nat.le_of_ble_eq_true rfl, Nat.le_of_ble_eq_true rfl⟩ (fun v9 hw H locs q9 I hS => ?_)
                    obtain ⟨q1, hR, hF9⟩ := q9
                    subst q1
                    have hF := xF.tr hF hF9
                    refine W.eq (g2 := F0 m 195 ls []) rfl ?_
                    refine lv_aload_n hx hb dX8_close_195 rfl (lv_at hl 0 rfl) ?_
                    refine lv_dup hx hb dX8_close_196 rfl ?_
                    refine xget (C := RX8) (T := TX8) (N := 37) 34 hx hb hts hin8 hown I hR.1 rfl (by decide) (List.mem_of_getElem? (i := 1) rfl) rfl rfl dX8_close_197 ?_
                    refine lv_iconst (v := (nI 1)) hx hb dX8_close_200 (by decide) ?_
                    refine lv_iadd hx hb dX8_close_201 ?_
                    refine xtop (y := .int (nI (mN (fX8_parts σ77 (nI 0) a136_5 (tn a1)).1 34 + 1))) (congrArg Value.int (nI_add _ _)) ?_
                    refine xputM 34 hx hb hts hin8 hown I hS hR hF (by decide) (List.mem_of_getElem? (i := 1) rfl) rfl rfl rfl rfl rfl (hR.putN (by decide) (mN (fX8_parts σ77 (nI 0) a136_5 (tn a1)).1 34 + 1)) dX8_close_202 (fun H locs hw I hR hF hS => ?_)
                    refine lv_lload_n hx hb dX8_close_205 rfl (lv_at hl 2 rfl) ?_
                    subst hG
                    exact xrlQ hx hb hr hlocks dX8_close_206 I hS ⟨rfl, hR, hF⟩
                  | succ n136 ih =>
                    intro k136 a136_5 hkn hG ls hl
                    have hk : k136 < mN σ77 2 := by omega
                    have hG : lseq ((if (mI σ77 6 (20 * k136 + (tn a1))) = (nI 1) then (a136_5 - (mL σ77 7 (20 * k136 + (tn a1)))) else (a136_5 - (0 : Int64)))) (fun q => fX8_close_L136 σ th a1 σ77 n136 (k136 + 1) q) = G := hG
                    refine lv_iload hx hb dX8_close_136 (lv_at hl 4 rfl) ?_
                    refine lv_aload_n hx hb dX8_close_138 rfl (lv_at hl 0 rfl) ?_
                    refine xget (C := RX8) (T := TX8) (N := 37) 2 hx hb hts hin8 hown I hR.1 rfl (by decide) (List.mem_of_getElem? (i := 7) rfl) rfl rfl dX8_close_139 ?_
                    refine lv_icmp_ge (tgt := 188) hx hb dX8_close_142 (by decide) (fun q => absurd q (nI_ge hk (by omega))) (fun _ => ?_)
                    refine lv_lload hx hb dX8_close_145 (lv_at hl 3 rfl) ?_
                    refine lv_aload_n hx hb dX8_close_147 rfl (lv_at hl 0 rfl) ?_
                    refine xget (C := RX8) (T := TX8) (N := 37) 6 hx hb hts hin8 hown I hR.1 rfl (by decide) (List.mem_of_getElem? (i := 8) rfl) rfl rfl dX8_close_148 ?_
                    refine lv_bipush (v := (nI 20)) hx hb dX8_close_151 (by decide) ?_
                    refine lv_iload hx hb dX8_close_153 (lv_at hl 4 rfl) ?_
                    refine lv_imul hx hb dX8_close_155 ?_
                    refine xtop (y := .int (nI (20 * k136))) (congrArg Value.int (pk_mul _ _)) ?_
                    refine lv_iload_n hx hb dX8_close_156 rfl (lv_at hl 1 rfl) ?_
                    refine xtop (y := .int (nI (tn a1))) (congrArg Value.int e_a1) ?_
                    refine lv_iadd hx hb dX8_close_157 ?_
                    refine xtop (y := .int (nI (20 * k136 + (tn a1)))) (congrArg Value.int (nI_add _ _)) ?_
                    refine xiald (i := (20 * k136 + (tn a1))) (n := 240) hx hb I (hR.2.1 6 240 (by decide)) (by omega) (by decide) dX8_close_158 ?_
                    refine lv_iconst (v := (nI 1)) hx hb dX8_close_159 (by decide) ?_
                    refine lv_icmp_ne (tgt := 178) hx hb dX8_close_160 (by decide) (fun c_160 => ?_) (fun c_160 => ?_)
                    · skip
                      rw [if_neg c_160] at hG
                      refine lv_lconst (v := (0 : Int64)) hx hb dX8_close_178 rfl ?_
                      refine lv_lsub hx hb dX8_close_179 ?_
                      refine lv_lstore (lv' := [(5, .long (a136_5 - (0 : Int64))), (0, .ref r), (1, .int a1), (3, .long (fX8_costIn σ77 (nI (tn a1)))), (7, .int (nI k136))]) hx hb dX8_close_180 hl (by decide) rfl (fun ls hl => ?_)
                      refine lv_iinc (v := (nI (k136 + 1))) (lv' := [(7, .int (nI (k136 + 1))), (5, .long (a136_5 - (0 : Int64))), (0, .ref r), (1, .int a1), (3, .long (fX8_costIn σ77 (nI (tn a1))))]) hx hb dX8_close_182 hl (k := 4) rfl (nI_succ k136).symm (by decide) rfl (fun ls hl => ?_)
                      refine lv_goto (tgt := 136) hx hb dX8_close_185 (by decide) ?_
                      exact ih (k136 + 1) (a136_5 - (0 : Int64)) (by first | omega | (simp only [mSI_N, mSL_N]; omega)) hG ls (lv_sub hl [2, 3, 4, 1, 0] rfl)
                    · skip
                      rw [if_pos c_160] at hG
                      refine lv_aload_n hx hb dX8_close_163 rfl (lv_at hl 0 rfl) ?_
                      refine xget (C := RX8) (T := TX8) (N := 37) 7 hx hb hts hin8 hown I hR.1 rfl (by decide) (List.mem_of_getElem? (i := 9) rfl) rfl rfl dX8_close_164 ?_
                      refine lv_bipush (v := (nI 20)) hx hb dX8_close_167 (by decide) ?_
                      refine lv_iload hx hb dX8_close_169 (lv_at hl 4 rfl) ?_
                      refine lv_imul hx hb dX8_close_171 ?_
                      refine xtop (y := .int (nI (20 * k136))) (congrArg Value.int (pk_mul _ _)) ?_
                      refine lv_iload_n hx hb dX8_close_172 rfl (lv_at hl 1 rfl) ?_
                      refine xtop (y := .int (nI (tn a1))) (congrArg Value.int e_a1) ?_
                      refine lv_iadd hx hb dX8_close_173 ?_
                      refine xtop (y := .int (nI (20 * k136 + (tn a1)))) (congrArg Value.int (nI_add _ _)) ?_
                      refine xlald (i := (20 * k136 + (tn a1))) (n := 240) hx hb I (hR.2.2.2.1 7 240 (by decide)) (by omega) (by decide) dX8_close_174 ?_
                      refine lv_goto (tgt := 179) hx hb dX8_close_175 (by decide) ?_
                      refine lv_lsub hx hb dX8_close_179 ?_
                      refine lv_lstore (lv' := [(5, .long (a136_5 - (mL σ77 7 (20 * k136 + (tn a1))))), (0, .ref r), (1, .int a1), (3, .long (fX8_costIn σ77 (nI (tn a1)))), (7, .int (nI k136))]) hx hb dX8_close_180 hl (by decide) rfl (fun ls hl => ?_)
                      refine lv_iinc (v := (nI (k136 + 1))) (lv' := [(7, .int (nI (k136 + 1))), (5, .long (a136_5 - (mL σ77 7 (20 * k136 + (tn a1))))), (0, .ref r), (1, .int a1), (3, .long (fX8_costIn σ77 (nI (tn a1))))]) hx hb dX8_close_182 hl (k := 4) rfl (nI_succ k136).symm (by decide) rfl (fun ls hl => ?_)
                      refine lv_goto (tgt := 136) hx hb dX8_close_185 (by decide) ?_
                      exact ih (k136 + 1) (a136_5 - (mL σ77 7 (20 * k136 + (tn a1)))) (by first | omega | (simp only [mSI_N, mSL_N]; omega)) hG ls (lv_sub hl [2, 3, 4, 1, 0] rfl)
                exact L136 (mN σ77 2) 0 (fX8_costIn σ77 (nI (tn a1))) (by omega) hG ls (lv_sub hl [3, 4, 2, 1, 0] rfl)
              | succ n77 ih =>
                intro k77 σ77 hkn H locs hw I hR hF hS hW hG ls hl
                have hk : k77 < mN σ77 20 := by omega
                have wf77 := hW.1
                have hG : lseq ((if (nI ((mK σ77 23 k77) / 100)) = (nI (tn a1)) then (mSI σ77 28 k77 (vp_nar .boolean (fX8_isCovered σ77 k77))) else (mSI σ77 28 k77 (vp_nar .boolean (mI σ77 28 k77))))) (fun q => fX8_close_L77 σ th a1 n77 (k77 + 1) q) = G := hG
                refine lv_iload_n hx hb dX8_close_77 rfl (lv_at hl 2 rfl) ?_
                refine lv_aload_n hx hb dX8_close_78 rfl (lv_at hl 0 rfl) ?_
                refine xget (C := RX8) (T := TX8) (N := 37) 20 hx hb hts hin8 hown I hR.1 rfl (by decide) (List.mem_of_getElem? (i := 4) rfl) rfl rfl dX8_close_79 ?_
                refine lv_icmp_ge (tgt := 124) hx hb dX8_close_82 (by decide) (fun q => absurd q (nI_ge hk (by omega))) (fun _ => ?_)
                refine lv_aload_n hx hb dX8_close_85 rfl (lv_at hl 0 rfl) ?_
                refine xget (C := RX8) (T := TX8) (N := 37) 28 hx hb hts hin8 hown I hR.1 rfl (by decide) (List.mem_of_getElem? (i := 5) rfl) rfl rfl dX8_close_86 ?_
                refine lv_iload_n hx hb dX8_close_89 rfl (lv_at hl 2 rfl) ?_
                refine lv_aload_n hx hb dX8_close_90 rfl (lv_at hl 0 rfl) ?_
                refine xget (C := RX8) (T := TX8) (N := 37) 23 hx hb hts hin8 hown I hR.1 rfl (by decide) (List.mem_of_getElem? (i := 6) rfl) rfl rfl dX8_close_91 ?_
                refine lv_iload_n hx hb dX8_close_94 rfl (lv_at hl 2 rfl) ?_
                refine xiald (i := k77) (n := 60) hx hb I (hR.2.2.1 23 60 (by decide)) (by omega) (by decide) dX8_close_95 ?_
                have b95 := hW.2.2.2.2.2.1 k77 (by omega)
                refine lv_bipush (v := (nI 100)) hx hb dX8_close_96 (by decide) ?_
                refine lv_idiv hx hb dX8_close_98 (by decide) ?_
                refine xtop (y := .int (nI ((mK σ77 23 k77) / 100))) (congrArg Value.int (pk_div (by omega) (by decide) (by decide))) ?_
                refine lv_iload_n hx hb dX8_close_99 rfl (lv_at hl 1 rfl) ?_
                refine xtop (y := .int (nI (tn a1))) (congrArg Value.int e_a1) ?_
                refine lv_icmp_ne (tgt := 111) hx hb dX8_close_100 (by decide) (fun c_100 => ?_) (fun c_100 => ?_)
                · skip
                  rw [if_neg c_100] at hG
                  refine lv_aload_n hx hb dX8_close_111 rfl (lv_at hl 0 rfl) ?_
                  refine xget (C := RX8) (T := TX8) (N := 37) 28 hx hb hts hin8 hown I hR.1 rfl (by decide) (List.mem_of_getElem? (i := 5) rfl) rfl rfl dX8_close_112 ?_
                  refine lv_iload_n hx hb dX8_close_115 rfl (lv_at hl 2 rfl) ?_
                  refine xzald (i := k77) (n := 60) hx hb I (hR.2.2.2.2.1 28 60 (by decide)) (by omega) (by decide) dX8_close_116 ?_
                  refine xzM (i := k77) (n := 60) 28 hx hb I hS hR hF (by decide) (by omega) (by decide) dX8_close_117 (fun H locs hw I hR hF hS => ?_)
                  have hW := hW.sZ 28 k77 (vp_nar .boolean (mI σ77 28 k77)) vnar01
                  refine lv_iinc (v := (nI (k77 + 1))) (lv' := [(3, .int (nI (k77 + 1))), (0, .ref r), (1, .int a1)]) hx hb dX8_close_118 hl (k := 2) rfl (nI_succ k77).symm (by decide) rfl (fun ls hl => ?_)
                  refine lv_goto (tgt := 77) hx hb dX8_close_121 (by decide) ?_
                  exact ih (k77 + 1) (mSI σ77 28 k77 (vp_nar .boolean (mI σ77 28 k77))) (by first | omega | (simp only [mSI_N, mSL_N]; omega)) H locs hw I hR hF hS hW hG ls (lv_sub hl [1, 2, 0] rfl)
                · skip
                  rw [if_pos c_100] at hG
                  refine lv_aload_n hx hb dX8_close_103 rfl (lv_at hl 0 rfl) ?_
                  refine lv_iload_n hx hb dX8_close_104 rfl (lv_at hl 2 rfl) ?_
                  refine xcvR (As := [.int (nI k77)]) (rest := [.int (nI k77), .ref (ar 28)]) (v := some (.int (fX8_isCovered σ77 k77))) ⟨hx, hb, hml, hown, hts⟩ (mX8_isCovered l lo D E hw σ77 (nI 0) r ar hR hW k77  (by first | assumption | omega)) (cwV 1 hts gX8_close_X8_isCovered rfl rfl rfl (by decide +kernel) ⟨Nat.le_of_ble_eq_true rfl, Nat.le_of_ble_eq_true rfl⟩) I hR.1 rfl rfl hl.1 rfl (Nat.le_of_ble_eq_true rfl) dX8_close_105 ⟨Nat.le_of_ble_eq_true rfl, Nat.le_of_ble_eq_true rfl⟩ ?_
                  refine W.eq (g2 := F0 m 108 ls [.int (fX8_isCovered σ77 k77), .int (nI k77), .ref (ar 28)]) rfl ?_
                  refine lv_goto (tgt := 117) hx hb dX8_close_108 (by decide) ?_
                  refine xzM (i := k77) (n := 60) 28 hx hb I hS hR hF (by decide) (by omega) (by decide) dX8_close_117 (fun H locs hw I hR hF hS => ?_)
                  have hW := hW.sZ 28 k77 (vp_nar .boolean (fX8_isCovered σ77 k77)) vnar01
                  refine lv_iinc (v := (nI (k77 + 1))) (lv' := [(3, .int (nI (k77 + 1))), (0, .ref r), (1, .int a1)]) hx hb dX8_close_118 hl (k := 2) rfl (nI_succ k77).symm (by decide) rfl (fun ls hl => ?_)
                  refine lv_goto (tgt := 77) hx hb dX8_close_121 (by decide) ?_
                  exact ih (k77 + 1) (mSI σ77 28 k77 (vp_nar .boolean (fX8_isCovered σ77 k77))) (by first | omega | (simp only [mSI_N, mSL_N]; omega)) H locs hw I hR hF hS hW hG ls (lv_sub hl [1, 2, 0] rfl)
            exact L77 (mN σ 20) 0 σ (by omega) H locs hw I hR hF hS hW hG ls (lv_sub hl [2, 3, 0] rfl)
          · skip
            rw [if_pos c_47] at hG
            refine lv_iconst (v := (nI 1)) hx hb dX8_close_50 (by decide) ?_
            refine lv_goto (tgt := 63) hx hb dX8_close_51 (by decide) ?_
            refine xputM 0 hx hb hts hin8 hown I hS hR hF (by decide) (List.mem_of_getElem? (i := 3) rfl) rfl rfl rfl rfl rfl (hR.putTh _) dX8_close_63 (fun H locs hw I hR hF hS => ?_)
            refine lv_aload_n hx hb dX8_close_66 rfl (lv_at hl 1 rfl) ?_
            refine xget (C := RX8) (T := TX8) (N := 37) 0 hx hb hts hin8 hown I hR.1 rfl (by decide) (List.mem_of_getElem? (i := 3) rfl) rfl rfl dX8_close_67 ?_
            refine lv_if_le (tgt := 75) hx hb dX8_close_70 (by decide) (fun q => absurd q (by decide)) (fun _ => ?_)
            refine lv_lconst (v := (0 : Int64)) hx hb dX8_close_73 rfl ?_
            subst hG
            exact xrlQ hx hb hr hlocks dX8_close_74 I hS ⟨rfl, hR, hF⟩
