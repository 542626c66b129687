def fX8_isIn (a1 : Int32) (b1 : Int32) (c1 : Int32) : Int32 := (if a1 < b1 then (nI 0) else (if c1 < a1 then (nI 0) else (nI 1)))
set_option maxHeartbeats 4000000 in
set_option maxRecDepth 100000 in
theorem mX8_isIn (l : Launch) (lo : Nat) (D : va_G) (E : Nat → ClassId) (h : XW) (a1 : Int32) (b1 : Int32) (c1 : Int32) : Met l yX8_isIn wsX8_isIn ({ frames := 0, cells := 0, slots := 0, locals := 0 } : Room) (xP lo D E h [.int a1, .int b1, .int c1]) (xR (some (.int (fX8_isIn a1 b1 c1)))) 0 0 (fun _ => False) := by
  obtain ⟨G, hG⟩ : ∃ G, fX8_isIn a1 b1 c1 = G := ⟨_, rfl⟩
  rw [hG]
  unfold fX8_isIn at hG
  refine Met.ofW (cc := cX8_isIn) (maxL := 3) (ret := (some .boolean)) (by decide) rfl ?_
  intro p e s m args below meth c s₁ B hml hv
  obtain ⟨rfl, I⟩ := hv
  have hx := B.exec
  have hb := B.bytes
  have hr := B.returns
  have hts := atoms_spec (ws := wsX8_isIn) B.pre
  have hown : s.vm.findClass RX8 = some m.cls := findClass_of_methodNamed B.named
  have hlocks := B.notSynchronized
  have hl := lv_entry ([.int a1, .int b1, .int c1] : List Value) (n := 3) (Nat.le_of_ble_eq_true rfl)
  rw [lg_entry_eq]
  generalize (lg_sl ([.int a1, .int b1, .int c1] : List Value) ++ List.replicate (3 - (lg_sl ([.int a1, .int b1, .int c1] : List Value)).length) Slot.unset).toArray = ls at hl ⊢
  have hl : lv_has ls 3 [(0, .int a1), (1, .int b1), (2, .int c1)] := hl
  refine lv_iload_n hx hb dX8_isIn_0 rfl (lv_at hl 0 rfl) ?_
  refine lv_iload_n hx hb dX8_isIn_1 rfl (lv_at hl 1 rfl) ?_
  refine lv_icmp_lt (tgt := 14) hx hb dX8_isIn_2 (by decide) (fun c_2 => ?_) (fun c_2 => ?_)
  · skip
    rw [if_pos c_2] at hG
    refine lv_iconst (v := (nI 0)) hx hb dX8_isIn_14 (by decide) ?_
    exact xrzR hx hb hr hlocks dX8_isIn_15 hG (by have hG2 : (nI 0) = G := hG; rw [← hG2]; exact xnb (Or.inl rfl))
  · skip
    rw [if_neg c_2] at hG
    refine lv_iload_n hx hb dX8_isIn_5 rfl (lv_at hl 0 rfl) ?_
    refine lv_iload_n hx hb dX8_isIn_6 rfl (lv_at hl 2 rfl) ?_
    refine lv_icmp_gt (tgt := 14) hx hb dX8_isIn_7 (by decide) (fun c_7 => ?_) (fun c_7 => ?_)
    · skip
      rw [if_pos c_7] at hG
      refine lv_iconst (v := (nI 0)) hx hb dX8_isIn_14 (by decide) ?_
      exact xrzR hx hb hr hlocks dX8_isIn_15 hG (by have hG2 : (nI 0) = G := hG; rw [← hG2]; exact xnb (Or.inl rfl))
    · skip
      rw [if_neg c_7] at hG
      refine lv_iconst (v := (nI 1)) hx hb dX8_isIn_10 (by decide) ?_
      refine lv_goto (tgt := 15) hx hb dX8_isIn_11 (by decide) ?_
      exact xrzR hx hb hr hlocks dX8_isIn_15 hG (by have hG2 : (nI 1) = G := hG; rw [← hG2]; exact xnb (Or.inr rfl))

theorem zX8_isIn (a b c : Int32) : fX8_isIn a b c = 0 ∨ fX8_isIn a b c = 1 := by
  unfold fX8_isIn
  repeat' split
  all_goals first | exact Or.inl rfl | exact Or.inr rfl

def fX8_isYear (a1 : Int32) : Int32 := (fX8_isIn a1 (nI 0) (nI 19))
set_option maxHeartbeats 4000000 in
set_option maxRecDepth 100000 in
theorem mX8_isYear (l : Launch) (lo : Nat) (D : va_G) (E : Nat → ClassId) (h : XW) (a1 : Int32) : Met l yX8_isYear wsX8_isYear ({ frames := 1, cells := 0, slots := 0, locals := 22 } : Room) (xP lo D E h [.int a1]) (xR (some (.int (fX8_isYear a1)))) 0 0 (fun _ => False) := by
  obtain ⟨G, hG⟩ : ∃ G, fX8_isYear a1 = G := ⟨_, rfl⟩
  rw [hG]
  unfold fX8_isYear at hG
  refine Met.ofW (cc := cX8_isYear) (maxL := 1) (ret := (some .boolean)) (by decide) rfl ?_
  intro p e s m args below meth c s₁ B hml hv
  obtain ⟨rfl, I⟩ := hv
  have hx := B.exec
  have hb := B.bytes
  have hr := B.returns
  have hts := atoms_spec (ws := wsX8_isYear) B.pre
  have hown : s.vm.findClass RX8 = some m.cls := findClass_of_methodNamed B.named
  have hlocks := B.notSynchronized
  have hl := lv_entry ([.int a1] : List Value) (n := 1) (Nat.le_of_ble_eq_true rfl)
  rw [lg_entry_eq]
  generalize (lg_sl ([.int a1] : List Value) ++ List.replicate (1 - (lg_sl ([.int a1] : List Value)).length) Slot.unset).toArray = ls at hl ⊢
  have hl : lv_has ls 1 [(0, .int a1)] := hl
  refine lv_iload_n hx hb dX8_isYear_0 rfl (lv_at hl 0 rfl) ?_
  refine lv_iconst (v := (nI 0)) hx hb dX8_isYear_1 (by decide) ?_
  refine lv_bipush (v := (nI 19)) hx hb dX8_isYear_2 (by decide) ?_
  refine xcsR (As := [.int a1, .int (nI 0), .int (nI 19)]) (rest := []) (v := some (.int (fX8_isIn a1 (nI 0) (nI 19)))) ⟨hx, hb, hml, hown, hts⟩ (mX8_isIn l lo D E h  a1 (nI 0) (nI 19)  ) (va_cwS 3 hts gX8_isYear_X8_isIn rfl rfl rfl (by decide +kernel) ⟨Nat.le_of_ble_eq_true rfl, Nat.le_of_ble_eq_true rfl⟩) I rfl hl.1 rfl (Nat.le_of_ble_eq_true rfl) dX8_isYear_4 ⟨Nat.le_of_ble_eq_true rfl, Nat.le_of_ble_eq_true rfl⟩ ?_
  refine W.eq (g2 := F0 m 7 ls [.int (fX8_isIn a1 (nI 0) (nI 19))]) rfl ?_
  exact xrzR hx hb hr hlocks dX8_isYear_7 hG (by have hG2 : (fX8_isIn a1 (nI 0) (nI 19)) = G := hG; rw [← hG2]; exact xnb (zX8_isIn a1 (nI 0) (nI 19) ))

theorem zX8_isYear (a : Int32) : fX8_isYear a = 0 ∨ fX8_isYear a = 1 := zX8_isIn _ _ _

def fX8_isLoss (a1 : Int32) : Int32 := (fX8_isIn a1 (nI 0) (nI 100000000))
set_option maxHeartbeats 4000000 in
set_option maxRecDepth 100000 in
theorem mX8_isLoss (l : Launch) (lo : Nat) (D : va_G) (E : Nat → ClassId) (h : XW) (a1 : Int32) : Met l yX8_isLoss wsX8_isLoss ({ frames := 1, cells := 0, slots := 0, locals := 22 } : Room) (xP lo D E h [.int a1]) (xR (some (.int (fX8_isLoss a1)))) 0 0 (fun _ => False) := by
  obtain ⟨G, hG⟩ : ∃ G, fX8_isLoss a1 = G := ⟨_, rfl⟩
  rw [hG]
  unfold fX8_isLoss at hG
  refine Met.ofW (cc := cX8_isLoss) (maxL := 1) (ret := (some .boolean)) (by decide) rfl ?_
  intro p e s m args below meth c s₁ B hml hv
  obtain ⟨rfl, I⟩ := hv
  have hx := B.exec
  have hb := B.bytes
  have hr := B.returns
  have hts := atoms_spec (ws := wsX8_isLoss) B.pre
  have hown : s.vm.findClass RX8 = some m.cls := findClass_of_methodNamed B.named
  have hlocks := B.notSynchronized
  have hl := lv_entry ([.int a1] : List Value) (n := 1) (Nat.le_of_ble_eq_true rfl)
  rw [lg_entry_eq]
  generalize (lg_sl ([.int a1] : List Value) ++ List.replicate (1 - (lg_sl ([.int a1] : List Value)).length) Slot.unset).toArray = ls at hl ⊢
  have hl : lv_has ls 1 [(0, .int a1)] := hl
  refine lv_iload_n hx hb dX8_isLoss_0 rfl (lv_at hl 0 rfl) ?_
  refine lv_iconst (v := (nI 0)) hx hb dX8_isLoss_1 (by decide) ?_
  refine lv_ldc (v := (nI 100000000)) hx hb hown (hts _ (List.mem_of_getElem? (i := 1) rfl)) dX8_isLoss_2 ?_
  refine xcsR (As := [.int a1, .int (nI 0), .int (nI 100000000)]) (rest := []) (v := some (.int (fX8_isIn a1 (nI 0) (nI 100000000)))) ⟨hx, hb, hml, hown, hts⟩ (mX8_isIn l lo D E h  a1 (nI 0) (nI 100000000)  ) (va_cwS 3 hts gX8_isLoss_X8_isIn rfl rfl rfl (by decide +kernel) ⟨Nat.le_of_ble_eq_true rfl, Nat.le_of_ble_eq_true rfl⟩) I rfl hl.1 rfl (Nat.le_of_ble_eq_true rfl) dX8_isLoss_4 ⟨Nat.le_of_ble_eq_true rfl, Nat.le_of_ble_eq_true rfl⟩ ?_
  refine W.eq (g2 := F0 m 7 ls [.int (fX8_isIn a1 (nI 0) (nI 100000000))]) rfl ?_
  exact xrzR hx hb hr hlocks dX8_isLoss_7 hG (by have hG2 : (fX8_isIn a1 (nI 0) (nI 100000000)) = G := hG; rw [← hG2]; exact xnb (zX8_isIn a1 (nI 0) (nI 100000000) ))

theorem zX8_isLoss (a : Int32) : fX8_isLoss a = 0 ∨ fX8_isLoss a = 1 := zX8_isIn _ _ _

def fX8_isKind (a1 : Int32) : Int32 := (fX8_isIn a1 (nI 0) (nI 3))
set_option maxHeartbeats 4000000 in
set_option maxRecDepth 100000 in
theorem mX8_isKind (l : Launch) (lo : Nat) (D : va_G) (E : Nat → ClassId) (h : XW) (a1 : Int32) : Met l yX8_isKind wsX8_isKind ({ frames := 1, cells := 0, slots := 0, locals := 22 } : Room) (xP lo D E h [.int a1]) (xR (some (.int (fX8_isKind a1)))) 0 0 (fun _ => False) := by
  obtain ⟨G, hG⟩ : ∃ G, fX8_isKind a1 = G := ⟨_, rfl⟩
  rw [hG]
  unfold fX8_isKind at hG
  refine Met.ofW (cc := cX8_isKind) (maxL := 1) (ret := (some .boolean)) (by decide) rfl ?_
  intro p e s m args below meth c s₁ B hml hv
  obtain ⟨rfl, I⟩ := hv
  have hx := B.exec
  have hb := B.bytes
  have hr := B.returns
  have hts := atoms_spec (ws := wsX8_isKind) B.pre
  have hown : s.vm.findClass RX8 = some m.cls := findClass_of_methodNamed B.named
  have hlocks := B.notSynchronized
  have hl := lv_entry ([.int a1] : List Value) (n := 1) (Nat.le_of_ble_eq_true rfl)
  rw [lg_entry_eq]
  generalize (lg_sl ([.int a1] : List Value) ++ List.replicate (1 - (lg_sl ([.int a1] : List Value)).length) Slot.unset).toArray = ls at hl ⊢
  have hl : lv_has ls 1 [(0, .int a1)] := hl
  refine lv_iload_n hx hb dX8_isKind_0 rfl (lv_at hl 0 rfl) ?_
  refine lv_iconst (v := (nI 0)) hx hb dX8_isKind_1 (by decide) ?_
  refine lv_iconst (v := (nI 3)) hx hb dX8_isKind_2 (by decide) ?_
  refine xcsR (As := [.int a1, .int (nI 0), .int (nI 3)]) (rest := []) (v := some (.int (fX8_isIn a1 (nI 0) (nI 3)))) ⟨hx, hb, hml, hown, hts⟩ (mX8_isIn l lo D E h  a1 (nI 0) (nI 3)  ) (va_cwS 3 hts gX8_isKind_X8_isIn rfl rfl rfl (by decide +kernel) ⟨Nat.le_of_ble_eq_true rfl, Nat.le_of_ble_eq_true rfl⟩) I rfl hl.1 rfl (Nat.le_of_ble_eq_true rfl) dX8_isKind_3 ⟨Nat.le_of_ble_eq_true rfl, Nat.le_of_ble_eq_true rfl⟩ ?_
  refine W.eq (g2 := F0 m 6 ls [.int (fX8_isIn a1 (nI 0) (nI 3))]) rfl ?_
  exact xrzR hx hb hr hlocks dX8_isKind_6 hG (by have hG2 : (fX8_isIn a1 (nI 0) (nI 3)) = G := hG; rw [← hG2]; exact xnb (zX8_isIn a1 (nI 0) (nI 3) ))

theorem zX8_isKind (a : Int32) : fX8_isKind a = 0 ∨ fX8_isKind a = 1 := zX8_isIn _ _ _

def fX8_isMember (σ : MT) (a1 : Int32) : Int32 := (fX8_isIn a1 (nI 0) ((nI (mN σ 2)) - (nI 1)))
set_option maxHeartbeats 4000000 in
set_option maxRecDepth 100000 in
theorem mX8_isMember (l : Launch) (lo : Nat) (D : va_G) (E : Nat → ClassId) (h : XW) (σ : MT) (th : Int32) (r : Nat) (ar : Nat → Nat) (hR : RM E σ th r ar h) (hW : MW σ) (a1 : Int32) : Met l yX8_isMember wsX8_isMember ({ frames := 1, cells := 0, slots := 0, locals := 22 } : Room) (xP lo D E h [.ref r, .int a1]) (xR (some (.int (fX8_isMember σ a1)))) 0 0 (fun _ => False) := by
  obtain ⟨G, hG⟩ : ∃ G, fX8_isMember σ a1 = G := ⟨_, rfl⟩
  rw [hG]
  unfold fX8_isMember at hG
  refine Met.ofW (cc := cX8_isMember) (maxL := 2) (ret := (some .boolean)) (by decide) rfl ?_
  intro p e s m args below meth c s₁ B hml hv
  obtain ⟨rfl, I⟩ := hv
  have hx := B.exec
  have hb := B.bytes
  have hr := B.returns
  have hts := atoms_spec (ws := wsX8_isMember) B.pre
  have hown : s.vm.findClass RX8 = some m.cls := findClass_of_methodNamed B.named
  have hlocks := B.notSynchronized
  have hl := lv_entry ([.ref r, .int a1] : List Value) (n := 2) (Nat.le_of_ble_eq_true rfl)
  rw [lg_entry_eq]
  generalize (lg_sl ([.ref r, .int a1] : List Value) ++ List.replicate (2 - (lg_sl ([.ref r, .int a1] : List Value)).length) Slot.unset).toArray = ls at hl ⊢
  have hl : lv_has ls 2 [(0, .ref r), (1, .int a1)] := hl
  have hin8 : ∀ w ∈ u_ws RX8 TX8 37, w ∈ wsX8_isMember := fun _ h => List.mem_cons_of_mem _ (List.mem_append_right _ (h))
  have hW0 := hW
  obtain ⟨⟨w1, w2, w3, w4, w5, w6, w7⟩, w9, w12, w21, w22, w23, w25, w31, z26, z27, z28, z36⟩ := id hW
  refine lv_iload_n hx hb dX8_isMember_0 rfl (lv_at hl 1 rfl) ?_
  refine lv_iconst (v := (nI 0)) hx hb dX8_isMember_1 (by decide) ?_
  refine lv_aload_n hx hb dX8_isMember_2 rfl (lv_at hl 0 rfl) ?_
  refine xget (C := RX8) (T := TX8) (N := 37) 2 hx hb hts hin8 hown I hR.1 rfl (by decide) (List.mem_of_getElem? (i := 1) rfl) rfl rfl dX8_isMember_3 ?_
  refine lv_iconst (v := (nI 1)) hx hb dX8_isMember_6 (by decide) ?_
  refine lv_isub hx hb dX8_isMember_7 ?_
  refine xcsR (As := [.int a1, .int (nI 0), .int ((nI (mN σ 2)) - (nI 1))]) (rest := []) (v := some (.int (fX8_isIn a1 (nI 0) ((nI (mN σ 2)) - (nI 1))))) ⟨hx, hb, hml, hown, hts⟩ (mX8_isIn l lo D E h  a1 (nI 0) ((nI (mN σ 2)) - (nI 1))  ) (va_cwS 3 hts gX8_isMember_X8_isIn rfl rfl rfl (by decide +kernel) ⟨Nat.le_of_ble_eq_true rfl, Nat.le_of_ble_eq_true rfl⟩) I rfl hl.1 rfl (Nat.le_of_ble_eq_true rfl) dX8_isMember_8 ⟨Nat.le_of_ble_eq_true rfl, Nat.le_of_ble_eq_true rfl⟩ ?_
  refine W.eq (g2 := F0 m 11 ls [.int (fX8_isIn a1 (nI 0) ((nI (mN σ 2)) - (nI 1)))]) rfl ?_
  exact xrzR hx hb hr hlocks dX8_isMember_11 hG (by have hG2 : (fX8_isIn a1 (nI 0) ((nI (mN σ 2)) - (nI 1))) = G := hG; rw [← hG2]; exact xnb (zX8_isIn a1 (nI 0) ((nI (mN σ 2)) - (nI 1)) ))

theorem zX8_isMember (σ : MT) (hW : MW σ) (a : Int32) : fX8_isMember σ a = 0 ∨ fX8_isMember σ a = 1 := zX8_isIn _ _ _

def fX8_isShip (σ : MT) (a1 : Int32) : Int32 := (fX8_isIn a1 (nI 0) ((nI (mN σ 8)) - (nI 1)))
set_option maxHeartbeats 4000000 in
set_option maxRecDepth 100000 in
theorem mX8_isShip (l : Launch) (lo : Nat) (D : va_G) (E : Nat → ClassId) (h : XW) (σ : MT) (th : Int32) (r : Nat) (ar : Nat → Nat) (hR : RM E σ th r ar h) (hW : MW σ) (a1 : Int32) : Met l yX8_isShip wsX8_isShip ({ frames := 1, cells := 0, slots := 0, locals := 22 } : Room) (xP lo D E h [.ref r, .int a1]) (xR (some (.int (fX8_isShip σ a1)))) 0 0 (fun _ => False) := by
  obtain ⟨G, hG⟩ : ∃ G, fX8_isShip σ a1 = G := ⟨_, rfl⟩
  rw [hG]
  unfold fX8_isShip at hG
  refine Met.ofW (cc := cX8_isShip) (maxL := 2) (ret := (some .boolean)) (by decide) rfl ?_
  intro p e s m args below meth c s₁ B hml hv
  obtain ⟨rfl, I⟩ := hv
  have hx := B.exec
  have hb := B.bytes
  have hr := B.returns
  have hts := atoms_spec (ws := wsX8_isShip) B.pre
  have hown : s.vm.findClass RX8 = some m.cls := findClass_of_methodNamed B.named
  have hlocks := B.notSynchronized
  have hl := lv_entry ([.ref r, .int a1] : List Value) (n := 2) (Nat.le_of_ble_eq_true rfl)
  rw [lg_entry_eq]
  generalize (lg_sl ([.ref r, .int a1] : List Value) ++ List.replicate (2 - (lg_sl ([.ref r, .int a1] : List Value)).length) Slot.unset).toArray = ls at hl ⊢
  have hl : lv_has ls 2 [(0, .ref r), (1, .int a1)] := hl
  have hin8 : ∀ w ∈ u_ws RX8 TX8 37, w ∈ wsX8_isShip := fun _ h => List.mem_cons_of_mem _ (List.mem_append_right _ (h))
  have hW0 := hW
  obtain ⟨⟨w1, w2, w3, w4, w5, w6, w7⟩, w9, w12, w21, w22, w23, w25, w31, z26, z27, z28, z36⟩ := id hW
  refine lv_iload_n hx hb dX8_isShip_0 rfl (lv_at hl 1 rfl) ?_
  refine lv_iconst (v := (nI 0)) hx hb dX8_isShip_1 (by decide) ?_
  refine lv_aload_n hx hb dX8_isShip_2 rfl (lv_at hl 0 rfl) ?_
  refine xget (C := RX8) (T := TX8) (N := 37) 8 hx hb hts hin8 hown I hR.1 rfl (by decide) (List.mem_of_getElem? (i := 1) rfl) rfl rfl dX8_isShip_3 ?_
  refine lv_iconst (v := (nI 1)) hx hb dX8_isShip_6 (by decide) ?_
  refine lv_isub hx hb dX8_isShip_7 ?_
  refine xcsR (As := [.int a1, .int (nI 0), .int ((nI (mN σ 8)) - (nI 1))]) (rest := []) (v := some (.int (fX8_isIn a1 (nI 0) ((nI (mN σ 8)) - (nI 1))))) ⟨hx, hb, hml, hown, hts⟩ (mX8_isIn l lo D E h  a1 (nI 0) ((nI (mN σ 8)) - (nI 1))  ) (va_cwS 3 hts gX8_isShip_X8_isIn rfl rfl rfl (by decide +kernel) ⟨Nat.le_of_ble_eq_true rfl, Nat.le_of_ble_eq_true rfl⟩) I rfl hl.1 rfl (Nat.le_of_ble_eq_true rfl) dX8_isShip_8 ⟨Nat.le_of_ble_eq_true rfl, Nat.le_of_ble_eq_true rfl⟩ ?_
  refine W.eq (g2 := F0 m 11 ls [.int (fX8_isIn a1 (nI 0) ((nI (mN σ 8)) - (nI 1)))]) rfl ?_
  exact xrzR hx hb hr hlocks dX8_isShip_11 hG (by have hG2 : (fX8_isIn a1 (nI 0) ((nI (mN σ 8)) - (nI 1))) = G := hG; rw [← hG2]; exact xnb (zX8_isIn a1 (nI 0) ((nI (mN σ 8)) - (nI 1)) ))

theorem zX8_isShip (σ : MT) (hW : MW σ) (a : Int32) : fX8_isShip σ a = 0 ∨ fX8_isShip σ a = 1 := zX8_isIn _ _ _

def fX8_isClaim (σ : MT) (a1 : Int32) : Int32 := (fX8_isIn a1 (nI 0) ((nI (mN σ 20)) - (nI 1)))
set_option maxHeartbeats 4000000 in
set_option maxRecDepth 100000 in
theorem mX8_isClaim (l : Launch) (lo : Nat) (D : va_G) (E : Nat → ClassId) (h : XW) (σ : MT) (th : Int32) (r : Nat) (ar : Nat → Nat) (hR : RM E σ th r ar h) (hW : MW σ) (a1 : Int32) : Met l yX8_isClaim wsX8_isClaim ({ frames := 1, cells := 0, slots := 0, locals := 22 } : Room) (xP lo D E h [.ref r, .int a1]) (xR (some (.int (fX8_isClaim σ a1)))) 0 0 (fun _ => False) := by
  obtain ⟨G, hG⟩ : ∃ G, fX8_isClaim σ a1 = G := ⟨_, rfl⟩
  rw [hG]
  unfold fX8_isClaim at hG
  refine Met.ofW (cc := cX8_isClaim) (maxL := 2) (ret := (some .boolean)) (by decide) rfl ?_
  intro p e s m args below meth c s₁ B hml hv
  obtain ⟨rfl, I⟩ := hv
  have hx := B.exec
  have hb := B.bytes
  have hr := B.returns
  have hts := atoms_spec (ws := wsX8_isClaim) B.pre
  have hown : s.vm.findClass RX8 = some m.cls := findClass_of_methodNamed B.named
  have hlocks := B.notSynchronized
  have hl := lv_entry ([.ref r, .int a1] : List Value) (n := 2) (Nat.le_of_ble_eq_true rfl)
  rw [lg_entry_eq]
  generalize (lg_sl ([.ref r, .int a1] : List Value) ++ List.replicate (2 - (lg_sl ([.ref r, .int a1] : List Value)).length) Slot.unset).toArray = ls at hl ⊢
  have hl : lv_has ls 2 [(0, .ref r), (1, .int a1)] := hl
  have hin8 : ∀ w ∈ u_ws RX8 TX8 37, w ∈ wsX8_isClaim := fun _ h => List.mem_cons_of_mem _ (List.mem_append_right _ (h))
  have hW0 := hW
  obtain ⟨⟨w1, w2, w3, w4, w5, w6, w7⟩, w9, w12, w21, w22, w23, w25, w31, z26, z27, z28, z36⟩ := id hW
  refine lv_iload_n hx hb dX8_isClaim_0 rfl (lv_at hl 1 rfl) ?_
  refine lv_iconst (v := (nI 0)) hx hb dX8_isClaim_1 (by decide) ?_
  refine lv_aload_n hx hb dX8_isClaim_2 rfl (lv_at hl 0 rfl) ?_
  refine xget (C := RX8) (T := TX8) (N := 37) 20 hx hb hts hin8 hown I hR.1 rfl (by decide) (List.mem_of_getElem? (i := 1) rfl) rfl rfl dX8_isClaim_3 ?_
  refine lv_iconst (v := (nI 1)) hx hb dX8_isClaim_6 (by decide) ?_
  refine lv_isub hx hb dX8_isClaim_7 ?_
  refine xcsR (As := [.int a1, .int (nI 0), .int ((nI (mN σ 20)) - (nI 1))]) (rest := []) (v := some (.int (fX8_isIn a1 (nI 0) ((nI (mN σ 20)) - (nI 1))))) ⟨hx, hb, hml, hown, hts⟩ (mX8_isIn l lo D E h  a1 (nI 0) ((nI (mN σ 20)) - (nI 1))  ) (va_cwS 3 hts gX8_isClaim_X8_isIn rfl rfl rfl (by decide +kernel) ⟨Nat.le_of_ble_eq_true rfl, Nat.le_of_ble_eq_true rfl⟩) I rfl hl.1 rfl (Nat.le_of_ble_eq_true rfl) dX8_isClaim_8 ⟨Nat.le_of_ble_eq_true rfl, Nat.le_of_ble_eq_true rfl⟩ ?_
  refine W.eq (g2 := F0 m 11 ls [.int (fX8_isIn a1 (nI 0) ((nI (mN σ 20)) - (nI 1)))]) rfl ?_
  exact xrzR hx hb hr hlocks dX8_isClaim_11 hG (by have hG2 : (fX8_isIn a1 (nI 0) ((nI (mN σ 20)) - (nI 1))) = G := hG; rw [← hG2]; exact xnb (zX8_isIn a1 (nI 0) ((nI (mN σ 20)) - (nI 1)) ))

theorem zX8_isClaim (σ : MT) (hW : MW σ) (a : Int32) : fX8_isClaim σ a = 0 ∨ fX8_isClaim σ a = 1 := zX8_isIn _ _ _

def fX8_open_S4 (σ : MT) (a1 : Int32) (k4 : Nat) (a4_2 : Int32) : (Int32) := (if (nI (mK σ 12 k4)) = a1 then (if (mI σ 14 k4) = (-1) then (nI k4) else a4_2) else a4_2)
def fX8_open_L4 (σ : MT) (a1 : Int32) : Nat → Nat → Int32 → Int32
  | 0, k4, a4_2 => a4_2
  | n4 + 1, k4, a4_2 => lseq (fX8_open_S4 σ a1 k4 a4_2) (fun q => fX8_open_L4 σ a1 n4 (k4 + 1) q)
def fX8_open (σ : MT) (a1 : Int32) : Int32 := (fX8_open_L4 σ a1 (mN σ 11) 0 (-1))
set_option maxHeartbeats 4000000 in
set_option maxRecDepth 100000 in
theorem mX8_open (l : Launch) (lo : Nat) (D : va_G) (E : Nat → ClassId) (h : XW) (σ : MT) (th : Int32) (r : Nat) (ar : Nat → Nat) (hR : RM E σ th r ar h) (hW : MW σ) (a1 : Int32) : Met l yX8_open wsX8_open ({ frames := 0, cells := 0, slots := 0, locals := 0 } : Room) (xP lo D E h [.ref r, .int a1]) (xR (some (.int (fX8_open σ a1)))) 0 0 (fun _ => False) := by
  obtain ⟨G, hG⟩ : ∃ G, fX8_open σ a1 = G := ⟨_, rfl⟩
  rw [hG]
  unfold fX8_open at hG
  refine Met.ofW (cc := cX8_open) (maxL := 4) (ret := (some .int)) (by decide) rfl ?_
  intro p e s m args below meth c s₁ B hml hv
  obtain ⟨rfl, I⟩ := hv
  have hx := B.exec
  have hb := B.bytes
  have hr := B.returns
  have hts := atoms_spec (ws := wsX8_open) B.pre
  have hown : s.vm.findClass RX8 = some m.cls := findClass_of_methodNamed B.named
  have hlocks := B.notSynchronized
  have hl := lv_entry ([.ref r, .int a1] : List Value) (n := 4) (Nat.le_of_ble_eq_true rfl)
  rw [lg_entry_eq]
  generalize (lg_sl ([.ref r, .int a1] : List Value) ++ List.replicate (4 - (lg_sl ([.ref r, .int a1] : List Value)).length) Slot.unset).toArray = ls at hl ⊢
  have hl : lv_has ls 4 [(0, .ref r), (1, .int a1)] := hl
  have hin8 : ∀ w ∈ u_ws RX8 TX8 37, w ∈ wsX8_open := fun _ h => List.mem_cons_of_mem _ (List.mem_append_right _ (h))
  have hW0 := hW
  obtain ⟨⟨w1, w2, w3, w4, w5, w6, w7⟩, w9, w12, w21, w22, w23, w25, w31, z26, z27, z28, z36⟩ := id hW
  refine lv_iconst (v := (-1)) hx hb dX8_open_0 (by decide) ?_
  refine lv_istore_n (lv' := [(2, .int (-1)), (0, .ref r), (1, .int a1)]) hx hb dX8_open_1 rfl hl (by decide) rfl (fun ls hl => ?_)
  refine lv_iconst (v := (nI 0)) hx hb dX8_open_2 (by decide) ?_
  refine lv_istore_n (lv' := [(3, .int (nI 0)), (2, .int (-1)), (0, .ref r), (1, .int a1)]) hx hb dX8_open_3 rfl hl (by decide) rfl (fun ls hl => ?_)
  have L4 : ∀ (n4 : Nat) (k4 : Nat) (a4_2 : Int32), k4 + n4 = mN σ 11 → fX8_open_L4 σ a1 n4 k4 a4_2 = G → ∀ ls : Array Slot, lv_has ls 4 [(0, .ref r), (1, .int a1), (2, .int a4_2), (3, .int (nI k4))] → W p l e (headSpec wsX8_open ({ frames := 0, cells := 0, slots := 0, locals := 0 } : Room)).room s m ([.ref r, .int a1] : List Value).toArray below meth c s.heap [] 0 0 (MQ below (xR (some (.int G))) ([.ref r, .int a1] : List Value).toArray s 0 0 (fun _ => False)) (F0 m 4 ls []) := by
    intro n4
    induction n4 with
    | zero =>
      intro k4 a4_2 hkn hG ls hl
      have hkN : k4 = mN σ 11 := by omega
      have hG : a4_2 = G := hG
      refine lv_iload_n hx hb dX8_open_4 rfl (lv_at hl 3 rfl) ?_
      refine lv_aload_n hx hb dX8_open_5 rfl (lv_at hl 0 rfl) ?_
      refine xget (C := RX8) (T := TX8) (N := 37) 11 hx hb hts hin8 hown I hR.1 rfl (by decide) (List.mem_of_getElem? (i := 1) rfl) rfl rfl dX8_open_6 ?_
      refine lv_icmp_ge (tgt := 44) hx hb dX8_open_9 (by decide) (fun _ => ?_) (fun q => absurd (nI_le (Nat.le_of_eq hkN.symm) (by omega)) q)
      refine lv_iload_n hx hb dX8_open_44 rfl (lv_at hl 2 rfl) ?_
      exact xriR hx hb hr hlocks dX8_open_45 hG
    | succ n4 ih =>
      intro k4 a4_2 hkn hG ls hl
      have hk : k4 < mN σ 11 := by omega
      have hG : lseq ((if (nI (mK σ 12 k4)) = a1 then (if (mI σ 14 k4) = (-1) then (nI k4) else a4_2) else a4_2)) (fun q => fX8_open_L4 σ a1 n4 (k4 + 1) q) = G := hG
      refine lv_iload_n hx hb dX8_open_4 rfl (lv_at hl 3 rfl) ?_
      refine lv_aload_n hx hb dX8_open_5 rfl (lv_at hl 0 rfl) ?_
      refine xget (C := RX8) (T := TX8) (N := 37) 11 hx hb hts hin8 hown I hR.1 rfl (by decide) (List.mem_of_getElem? (i := 1) rfl) rfl rfl dX8_open_6 ?_
      refine lv_icmp_ge (tgt := 44) hx hb dX8_open_9 (by decide) (fun q => absurd q (nI_ge hk (by omega))) (fun _ => ?_)
      refine lv_aload_n hx hb dX8_open_12 rfl (lv_at hl 0 rfl) ?_
      refine xget (C := RX8) (T := TX8) (N := 37) 12 hx hb hts hin8 hown I hR.1 rfl (by decide) (List.mem_of_getElem? (i := 2) rfl) rfl rfl dX8_open_13 ?_
      refine lv_iload_n hx hb dX8_open_16 rfl (lv_at hl 3 rfl) ?_
      refine xiald (i := k4) (n := 60) hx hb I (hR.2.2.1 12 60 (by decide)) (by omega) (by decide) dX8_open_17 ?_
      have b17 := w12 k4 (by omega)
      refine lv_iload_n hx hb dX8_open_18 rfl (lv_at hl 1 rfl) ?_
      refine lv_icmp_ne (tgt := 36) hx hb dX8_open_19 (by decide) (fun c_19 => ?_) (fun c_19 => ?_)
      · skip
        rw [if_neg c_19] at hG
        refine lv_iload_n hx hb dX8_open_36 rfl (lv_at hl 2 rfl) ?_
        refine lv_istore_n (lv' := [(2, .int a4_2), (0, .ref r), (1, .int a1), (3, .int (nI k4))]) hx hb dX8_open_37 rfl hl (by decide) rfl (fun ls hl => ?_)
        refine lv_iinc (v := (nI (k4 + 1))) (lv' := [(3, .int (nI (k4 + 1))), (2, .int a4_2), (0, .ref r), (1, .int a1)]) hx hb dX8_open_38 hl (k := 3) rfl (nI_succ k4).symm (by decide) rfl (fun ls hl => ?_)
        refine lv_goto (tgt := 4) hx hb dX8_open_41 (by decide) ?_
        exact ih (k4 + 1) a4_2 (by omega) hG ls (lv_sub hl [2, 3, 1, 0] rfl)
      · skip
        rw [if_pos c_19] at hG
        refine lv_aload_n hx hb dX8_open_22 rfl (lv_at hl 0 rfl) ?_
        refine xget (C := RX8) (T := TX8) (N := 37) 14 hx hb hts hin8 hown I hR.1 rfl (by decide) (List.mem_of_getElem? (i := 3) rfl) rfl rfl dX8_open_23 ?_
        refine lv_iload_n hx hb dX8_open_26 rfl (lv_at hl 3 rfl) ?_
        refine xiald (i := k4) (n := 60) hx hb I (hR.2.1 14 60 (by decide)) (by omega) (by decide) dX8_open_27 ?_
        refine lv_iconst (v := (-1)) hx hb dX8_open_28 (by decide) ?_
        refine lv_icmp_ne (tgt := 36) hx hb dX8_open_29 (by decide) (fun c_29 => ?_) (fun c_29 => ?_)
        · skip
          rw [if_neg c_29] at hG
          refine lv_iload_n hx hb dX8_open_36 rfl (lv_at hl 2 rfl) ?_
          refine lv_istore_n (lv' := [(2, .int a4_2), (0, .ref r), (1, .int a1), (3, .int (nI k4))]) hx hb dX8_open_37 rfl hl (by decide) rfl (fun ls hl => ?_)
          refine lv_iinc (v := (nI (k4 + 1))) (lv' := [(3, .int (nI (k4 + 1))), (2, .int a4_2), (0, .ref r), (1, .int a1)]) hx hb dX8_open_38 hl (k := 3) rfl (nI_succ k4).symm (by decide) rfl (fun ls hl => ?_)
          refine lv_goto (tgt := 4) hx hb dX8_open_41 (by decide) ?_
          exact ih (k4 + 1) a4_2 (by omega) hG ls (lv_sub hl [2, 3, 1, 0] rfl)
        · skip
          rw [if_pos c_29] at hG
          refine lv_iload_n hx hb dX8_open_32 rfl (lv_at hl 3 rfl) ?_
          refine lv_goto (tgt := 37) hx hb dX8_open_33 (by decide) ?_
          refine lv_istore_n (lv' := [(2, .int (nI k4)), (0, .ref r), (1, .int a1), (3, .int (nI k4))]) hx hb dX8_open_37 rfl hl (by decide) rfl (fun ls hl => ?_)
          refine lv_iinc (v := (nI (k4 + 1))) (lv' := [(3, .int (nI (k4 + 1))), (2, .int (nI k4)), (0, .ref r), (1, .int a1)]) hx hb dX8_open_38 hl (k := 3) rfl (nI_succ k4).symm (by decide) rfl (fun ls hl => ?_)
          refine lv_goto (tgt := 4) hx hb dX8_open_41 (by decide) ?_
          exact ih (k4 + 1) (nI k4) (by omega) hG ls (lv_sub hl [2, 3, 1, 0] rfl)
  exact L4 (mN σ 11) 0 (-1) (by omega) hG ls (lv_sub hl [2, 3, 1, 0] rfl)

def fX8_weightOf_B150 (σ : MT) (m1 : Nat) (y1 : Nat) (a5_3 : Int64) (v150_0 : Int64) : (Int64) := (a5_3 + v150_0)
def fX8_weightOf_B118 (σ : MT) (m1 : Nat) (y1 : Nat) (k5 : Nat) (a5_3 : Int64) (v42_0 : Int32) (v88_0 : Int32) (v118_0 : Int32) : (Int64) := (fX8_weightOf_B150 σ m1 y1 a5_3 (if v118_0 = 0 then (0 : Int64) else ((mI σ 10 (mK σ 12 k5)).toInt64 * (v88_0 - v42_0).toInt64)))
def fX8_weightOf_B88 (σ : MT) (m1 : Nat) (y1 : Nat) (k5 : Nat) (a5_3 : Int64) (v42_0 : Int32) (v88_0 : Int32) : (Int64) := (fX8_weightOf_B118 σ m1 y1 k5 a5_3 v42_0 v88_0 (if (nI (mK σ 9 (mK σ 12 k5))) = (nI m1) then (if v88_0 ≤ v42_0 then (nI 0) else (nI 1)) else (nI 0)))
def fX8_weightOf_B42 (σ : MT) (m1 : Nat) (y1 : Nat) (k5 : Nat) (a5_3 : Int64) (v42_0 : Int32) : (Int64) := (fX8_weightOf_B88 σ m1 y1 k5 a5_3 v42_0 (if (mI σ 14 k5) = (-1) then (nI (100 * y1 + 100)) else (if (nI (100 * y1 + 100)) ≤ (mI σ 14 k5) then (nI (100 * y1 + 100)) else (mI σ 14 k5))))
def fX8_weightOf_S5 (σ : MT) (m1 : Nat) (y1 : Nat) (k5 : Nat) (a5_3 : Int64) : (Int64) := (fX8_weightOf_B42 σ m1 y1 k5 a5_3 (if (mI σ 13 k5) ≤ (nI (100 * y1)) then (nI (100 * y1)) else (mI σ 13 k5)))
def fX8_weightOf_L5 (σ : MT) (m1 : Nat) (y1 : Nat) : Nat → Nat → Int64 → Int64
  | 0, k5, a5_3 => ((a5_3 * (mI σ 3 (20 * m1 + y1)).toInt64) / (100 : Int64))
  | n5 + 1, k5, a5_3 => lseq (fX8_weightOf_S5 σ m1 y1 k5 a5_3) (fun q => fX8_weightOf_L5 σ m1 y1 n5 (k5 + 1) q)
def fX8_weightOf (σ : MT) (m1 : Nat) (y1 : Nat) : Int64 := (fX8_weightOf_L5 σ m1 y1 (mN σ 11) 0 (0 : Int64))
set_option maxHeartbeats 4000000 in
set_option maxRecDepth 100000 in
theorem mX8_weightOf (l : Launch) (lo : Nat) (D : va_G) (E : Nat → ClassId) (h : XW) (σ : MT) (th : Int32) (r : Nat) (ar : Nat → Nat) (hR : RM E σ th r ar h) (hW : MW σ) (m1 : Nat) (y1 : Nat) (hm : m1 < mN σ 2) (hy : y1 < 20) : Met l yX8_weightOf wsX8_weightOf ({ frames := 0, cells := 0, slots := 0, locals := 0 } : Room) (xP lo D E h [.ref r, .int (nI m1), .int (nI y1)]) (xR (some (.long (fX8_weightOf σ m1 y1)))) 0 0 (fun _ => False) := by
  obtain ⟨G, hG⟩ : ∃ G, fX8_weightOf σ m1 y1 = G := ⟨_, rfl⟩
  rw [hG]
  unfold fX8_weightOf at hG
  refine Met.ofW (cc := cX8_weightOf) (maxL := 10) (ret := (some .long)) (by decide) rfl ?_
  intro p e s m args below meth c s₁ B hml hv
  obtain ⟨rfl, I⟩ := hv
  have hx := B.exec
  have hb := B.bytes
  have hr := B.returns
  have hts := atoms_spec (ws := wsX8_weightOf) B.pre
  have hown : s.vm.findClass RX8 = some m.cls := findClass_of_methodNamed B.named
  have hlocks := B.notSynchronized
  have hl := lv_entry ([.ref r, .int (nI m1), .int (nI y1)] : List Value) (n := 10) (Nat.le_of_ble_eq_true rfl)
  rw [lg_entry_eq]
  generalize (lg_sl ([.ref r, .int (nI m1), .int (nI y1)] : List Value) ++ List.replicate (10 - (lg_sl ([.ref r, .int (nI m1), .int (nI y1)] : List Value)).length) Slot.unset).toArray = ls at hl ⊢
  have hl : lv_has ls 10 [(0, .ref r), (1, .int (nI m1)), (2, .int (nI y1))] := hl
  have hin8 : ∀ w ∈ u_ws RX8 TX8 37, w ∈ wsX8_weightOf := fun _ h => List.mem_cons_of_mem _ (List.mem_append_right _ (h))
  have hW0 := hW
  obtain ⟨⟨w1, w2, w3, w4, w5, w6, w7⟩, w9, w12, w21, w22, w23, w25, w31, z26, z27, z28, z36⟩ := id hW
  refine lv_lconst (v := (0 : Int64)) hx hb dX8_weightOf_0 rfl ?_
  refine lv_lstore_n (lv' := [(3, .long (0 : Int64)), (0, .ref r), (1, .int (nI m1)), (2, .int (nI y1))]) hx hb dX8_weightOf_1 rfl hl (by decide) rfl (fun ls hl => ?_)
  refine lv_iconst (v := (nI 0)) hx hb dX8_weightOf_2 (by decide) ?_
  refine lv_istore (lv' := [(5, .int (nI 0)), (3, .long (0 : Int64)), (0, .ref r), (1, .int (nI m1)), (2, .int (nI y1))]) hx hb dX8_weightOf_3 hl (by decide) rfl (fun ls hl => ?_)
  have L5 : ∀ (n5 : Nat) (k5 : Nat) (a5_3 : Int64), k5 + n5 = mN σ 11 → fX8_weightOf_L5 σ m1 y1 n5 k5 a5_3 = G → ∀ ls : Array Slot, lv_has ls 10 [(0, .ref r), (1, .int (nI m1)), (2, .int (nI y1)), (3, .long a5_3), (5, .int (nI k5))] → W p l e (headSpec wsX8_weightOf ({ frames := 0, cells := 0, slots := 0, locals := 0 } : Room)).room s m ([.ref r, .int (nI m1), .int (nI y1)] : List Value).toArray below meth c s.heap [] 0 0 (MQ below (xR (some (.long G))) ([.ref r, .int (nI m1), .int (nI y1)] : List Value).toArray s 0 0 (fun _ => False)) (F0 m 5 ls []) := by
    intro n5
    induction n5 with
    | zero =>
      intro k5 a5_3 hkn hG ls hl
      have hkN : k5 = mN σ 11 := by omega
      have hG : ((a5_3 * (mI σ 3 (20 * m1 + y1)).toInt64) / (100 : Int64)) = G := hG
      refine lv_iload hx hb dX8_weightOf_5 (lv_at hl 4 rfl) ?_
      refine lv_aload_n hx hb dX8_weightOf_7 rfl (lv_at hl 0 rfl) ?_
      refine xget (C := RX8) (T := TX8) (N := 37) 11 hx hb hts hin8 hown I hR.1 rfl (by decide) (List.mem_of_getElem? (i := 1) rfl) rfl rfl dX8_weightOf_8 ?_
      refine lv_icmp_ge (tgt := 158) hx hb dX8_weightOf_11 (by decide) (fun _ => ?_) (fun q => absurd (nI_le (Nat.le_of_eq hkN.symm) (by omega)) q)
      refine lv_lload_n hx hb dX8_weightOf_158 rfl (lv_at hl 3 rfl) ?_
      refine lv_aload_n hx hb dX8_weightOf_159 rfl (lv_at hl 0 rfl) ?_
      refine xget (C := RX8) (T := TX8) (N := 37) 3 hx hb hts hin8 hown I hR.1 rfl (by decide) (List.mem_of_getElem? (i := 7) rfl) rfl rfl dX8_weightOf_160 ?_
      refine lv_bipush (v := (nI 20)) hx hb dX8_weightOf_163 (by decide) ?_
      refine lv_iload_n hx hb dX8_weightOf_165 rfl (lv_at hl 1 rfl) ?_
      refine lv_imul hx hb dX8_weightOf_166 ?_
      refine xtop (y := .int (nI (20 * m1))) (congrArg Value.int (pk_mul _ _)) ?_
      refine lv_iload_n hx hb dX8_weightOf_167 rfl (lv_at hl 2 rfl) ?_
      refine lv_iadd hx hb dX8_weightOf_168 ?_
      refine xtop (y := .int (nI (20 * m1 + y1))) (congrArg Value.int (nI_add _ _)) ?_
      refine xiald (i := (20 * m1 + y1)) (n := 240) hx hb I (hR.2.1 3 240 (by decide)) (by omega) (by decide) dX8_weightOf_169 ?_
      refine lv_i2l (v := (mI σ 3 (20 * m1 + y1)).toInt64) hx hb dX8_weightOf_170 rfl ?_
      refine lv_lmul hx hb dX8_weightOf_171 ?_
      refine lv_ldc2 (v := (100 : Int64)) hx hb hown (hts _ (List.mem_of_getElem? (i := 8) rfl)) dX8_weightOf_172 ?_
      refine lv_ldiv hx hb dX8_weightOf_175 (by decide) ?_
      exact xrlR hx hb hr hlocks dX8_weightOf_176 hG
    | succ n5 ih =>
      intro k5 a5_3 hkn hG ls hl
      have hk : k5 < mN σ 11 := by omega
      have hG : lseq ((fX8_weightOf_B42 σ m1 y1 k5 a5_3 (if (mI σ 13 k5) ≤ (nI (100 * y1)) then (nI (100 * y1)) else (mI σ 13 k5)))) (fun q => fX8_weightOf_L5 σ m1 y1 n5 (k5 + 1) q) = G := hG
      refine lv_iload hx hb dX8_weightOf_5 (lv_at hl 4 rfl) ?_
      refine lv_aload_n hx hb dX8_weightOf_7 rfl (lv_at hl 0 rfl) ?_
      refine xget (C := RX8) (T := TX8) (N := 37) 11 hx hb hts hin8 hown I hR.1 rfl (by decide) (List.mem_of_getElem? (i := 1) rfl) rfl rfl dX8_weightOf_8 ?_
      refine lv_icmp_ge (tgt := 158) hx hb dX8_weightOf_11 (by decide) (fun q => absurd q (nI_ge hk (by omega))) (fun _ => ?_)
      refine lv_aload_n hx hb dX8_weightOf_14 rfl (lv_at hl 0 rfl) ?_
      refine xget (C := RX8) (T := TX8) (N := 37) 13 hx hb hts hin8 hown I hR.1 rfl (by decide) (List.mem_of_getElem? (i := 2) rfl) rfl rfl dX8_weightOf_15 ?_
      refine lv_iload hx hb dX8_weightOf_18 (lv_at hl 4 rfl) ?_
      refine xiald (i := k5) (n := 60) hx hb I (hR.2.1 13 60 (by decide)) (by omega) (by decide) dX8_weightOf_20 ?_
      refine lv_bipush (v := (nI 100)) hx hb dX8_weightOf_21 (by decide) ?_
      refine lv_iload_n hx hb dX8_weightOf_23 rfl (lv_at hl 2 rfl) ?_
      refine lv_imul hx hb dX8_weightOf_24 ?_
      refine xtop (y := .int (nI (100 * y1))) (congrArg Value.int (pk_mul _ _)) ?_
      have B42 : ∀ (v42_0 : Int32), lseq (fX8_weightOf_B42 σ m1 y1 k5 a5_3 v42_0) (fun q => fX8_weightOf_L5 σ m1 y1 n5 (k5 + 1) q) = G → ∀ ls : Array Slot, lv_has ls 10 [(0, .ref r), (1, .int (nI m1)), (2, .int (nI y1)), (3, .long a5_3), (5, .int (nI k5))] → W p l e (headSpec wsX8_weightOf ({ frames := 0, cells := 0, slots := 0, locals := 0 } : Room)).room s m ([.ref r, .int (nI m1), .int (nI y1)] : List Value).toArray below meth c s.heap [] 0 0 (MQ below (xR (some (.long G))) ([.ref r, .int (nI m1), .int (nI y1)] : List Value).toArray s 0 0 (fun _ => False)) (F0 m 42 ls [.int v42_0]) := by
        intro v42_0 hG ls hl
        unfold fX8_weightOf_B42 at hG
        refine lv_istore (lv' := [(6, .int v42_0), (0, .ref r), (1, .int (nI m1)), (2, .int (nI y1)), (3, .long a5_3), (5, .int (nI k5))]) hx hb dX8_weightOf_42 hl (by decide) rfl (fun ls hl => ?_)
        refine lv_bipush (v := (nI 100)) hx hb dX8_weightOf_44 (by decide) ?_
        refine lv_iload_n hx hb dX8_weightOf_46 rfl (lv_at hl 3 rfl) ?_
        refine lv_imul hx hb dX8_weightOf_47 ?_
        refine xtop (y := .int (nI (100 * y1))) (congrArg Value.int (pk_mul _ _)) ?_
        refine lv_bipush (v := (nI 100)) hx hb dX8_weightOf_48 (by decide) ?_
        refine lv_iadd hx hb dX8_weightOf_50 ?_
        refine xtop (y := .int (nI (100 * y1 + 100))) (congrArg Value.int (nI_add _ _)) ?_
        refine lv_istore (lv' := [(7, .int (nI (100 * y1 + 100))), (6, .int v42_0), (0, .ref r), (1, .int (nI m1)), (2, .int (nI y1)), (3, .long a5_3), (5, .int (nI k5))]) hx hb dX8_weightOf_51 hl (by decide) rfl (fun ls hl => ?_)
        refine lv_aload_n hx hb dX8_weightOf_53 rfl (lv_at hl 2 rfl) ?_
        refine xget (C := RX8) (T := TX8) (N := 37) 14 hx hb hts hin8 hown I hR.1 rfl (by decide) (List.mem_of_getElem? (i := 3) rfl) rfl rfl dX8_weightOf_54 ?_
        refine lv_iload hx hb dX8_weightOf_57 (lv_at hl 6 rfl) ?_
        refine xiald (i := k5) (n := 60) hx hb I (hR.2.1 14 60 (by decide)) (by omega) (by decide) dX8_weightOf_59 ?_
        refine lv_iconst (v := (-1)) hx hb dX8_weightOf_60 (by decide) ?_
        have B88 : ∀ (v88_0 : Int32), lseq (fX8_weightOf_B88 σ m1 y1 k5 a5_3 v42_0 v88_0) (fun q => fX8_weightOf_L5 σ m1 y1 n5 (k5 + 1) q) = G → ∀ ls : Array Slot, lv_has ls 10 [(0, .ref r), (1, .int (nI m1)), (2, .int (nI y1)), (3, .long a5_3), (5, .int (nI k5)), (6, .int v42_0)] → W p l e (headSpec wsX8_weightOf ({ frames := 0, cells := 0, slots := 0, locals := 0 } : Room)).room s m ([.ref r, .int (nI m1), .int (nI y1)] : List Value).toArray below meth c s.heap [] 0 0 (MQ below (xR (some (.long G))) ([.ref r, .int (nI m1), .int (nI y1)] : List Value).toArray s 0 0 (fun _ => False)) (F0 m 88 ls [.int v88_0]) := by
          intro v88_0 hG ls hl
          unfold fX8_weightOf_B88 at hG
          refine lv_istore (lv' := [(8, .int v88_0), (0, .ref r), (1, .int (nI m1)), (2, .int (nI y1)), (3, .long a5_3), (5, .int (nI k5)), (6, .int v42_0)]) hx hb dX8_weightOf_88 hl (by decide) rfl (fun ls hl => ?_)
          refine lv_aload_n hx hb dX8_weightOf_90 rfl (lv_at hl 1 rfl) ?_
          refine xget (C := RX8) (T := TX8) (N := 37) 9 hx hb hts hin8 hown I hR.1 rfl (by decide) (List.mem_of_getElem? (i := 4) rfl) rfl rfl dX8_weightOf_91 ?_
          refine lv_aload_n hx hb dX8_weightOf_94 rfl (lv_at hl 1 rfl) ?_
          refine xget (C := RX8) (T := TX8) (N := 37) 12 hx hb hts hin8 hown I hR.1 rfl (by decide) (List.mem_of_getElem? (i := 5) rfl) rfl rfl dX8_weightOf_95 ?_
          refine lv_iload hx hb dX8_weightOf_98 (lv_at hl 5 rfl) ?_
          refine xiald (i := k5) (n := 60) hx hb I (hR.2.2.1 12 60 (by decide)) (by omega) (by decide) dX8_weightOf_100 ?_
          have b100 := w12 k5 (by omega)
          refine xiald (i := (mK σ 12 k5)) (n := 24) hx hb I (hR.2.2.1 9 24 (by decide)) (by omega) (by decide) dX8_weightOf_101 ?_
          have b101 := w9 (mK σ 12 k5) (by omega)
          refine lv_iload_n hx hb dX8_weightOf_102 rfl (lv_at hl 2 rfl) ?_
          have B118 : ∀ (v118_0 : Int32), (v118_0 = 0 ∨ v118_0 = 1) → lseq (fX8_weightOf_B118 σ m1 y1 k5 a5_3 v42_0 v88_0 v118_0) (fun q => fX8_weightOf_L5 σ m1 y1 n5 (k5 + 1) q) = G → ∀ ls : Array Slot, lv_has ls 10 [(0, .ref r), (1, .int (nI m1)), (2, .int (nI y1)), (3, .long a5_3), (5, .int (nI k5)), (6, .int v42_0), (8, .int v88_0)] → W p l e (headSpec wsX8_weightOf ({ frames := 0, cells := 0, slots := 0, locals := 0 } : Room)).room s m ([.ref r, .int (nI m1), .int (nI y1)] : List Value).toArray below meth c s.heap [] 0 0 (MQ below (xR (some (.long G))) ([.ref r, .int (nI m1), .int (nI y1)] : List Value).toArray s 0 0 (fun _ => False)) (F0 m 118 ls [.int v118_0]) := by
            intro v118_0 zv118_0 hG ls hl
            unfold fX8_weightOf_B118 at hG
            refine lv_istore (lv' := [(9, .int v118_0), (0, .ref r), (1, .int (nI m1)), (2, .int (nI y1)), (3, .long a5_3), (5, .int (nI k5)), (6, .int v42_0), (8, .int v88_0)]) hx hb dX8_weightOf_118 hl (by decide) rfl (fun ls hl => ?_)
            refine lv_lload_n hx hb dX8_weightOf_120 rfl (lv_at hl 4 rfl) ?_
            refine lv_iload hx hb dX8_weightOf_121 (lv_at hl 0 rfl) ?_
            have B150 : ∀ (v150_0 : Int64), lseq (fX8_weightOf_B150 σ m1 y1 a5_3 v150_0) (fun q => fX8_weightOf_L5 σ m1 y1 n5 (k5 + 1) q) = G → ∀ ls : Array Slot, lv_has ls 10 [(0, .ref r), (1, .int (nI m1)), (2, .int (nI y1)), (5, .int (nI k5))] → W p l e (headSpec wsX8_weightOf ({ frames := 0, cells := 0, slots := 0, locals := 0 } : Room)).room s m ([.ref r, .int (nI m1), .int (nI y1)] : List Value).toArray below meth c s.heap [] 0 0 (MQ below (xR (some (.long G))) ([.ref r, .int (nI m1), .int (nI y1)] : List Value).toArray s 0 0 (fun _ => False)) (F0 m 150 ls [.long v150_0, .long a5_3]) := by
              intro v150_0 hG ls hl
              unfold fX8_weightOf_B150 at hG
              refine lv_ladd hx hb dX8_weightOf_150 ?_
              refine lv_lstore_n (lv' := [(3, .long (a5_3 + v150_0)), (0, .ref r), (1, .int (nI m1)), (2, .int (nI y1)), (5, .int (nI k5))]) hx hb dX8_weightOf_151 rfl hl (by decide) rfl (fun ls hl => ?_)
              refine lv_iinc (v := (nI (k5 + 1))) (lv' := [(5, .int (nI (k5 + 1))), (3, .long (a5_3 + v150_0)), (0, .ref r), (1, .int (nI m1)), (2, .int (nI y1))]) hx hb dX8_weightOf_152 hl (k := 4) rfl (nI_succ k5).symm (by decide) rfl (fun ls hl => ?_)
              refine lv_goto (tgt := 5) hx hb dX8_weightOf_155 (by decide) ?_
              exact ih (k5 + 1) (a5_3 + v150_0) (by omega) hG ls (lv_sub hl [2, 3, 4, 1, 0] rfl)
            refine lv_if_eq (tgt := 149) hx hb dX8_weightOf_123 (by decide) (fun c_123 => ?_) (fun c_123 => ?_)
            · skip
              rw [if_pos c_123] at hG
              refine lv_lconst (v := (0 : Int64)) hx hb dX8_weightOf_149 rfl ?_
              exact B150 (0 : Int64) hG ls (lv_sub hl [1, 2, 3, 5] rfl)
            · skip
              rw [if_neg c_123] at hG
              refine lv_aload_n hx hb dX8_weightOf_126 rfl (lv_at hl 1 rfl) ?_
              refine xget (C := RX8) (T := TX8) (N := 37) 10 hx hb hts hin8 hown I hR.1 rfl (by decide) (List.mem_of_getElem? (i := 6) rfl) rfl rfl dX8_weightOf_127 ?_
              refine lv_aload_n hx hb dX8_weightOf_130 rfl (lv_at hl 1 rfl) ?_
              refine xget (C := RX8) (T := TX8) (N := 37) 12 hx hb hts hin8 hown I hR.1 rfl (by decide) (List.mem_of_getElem? (i := 5) rfl) rfl rfl dX8_weightOf_131 ?_
              refine lv_iload hx hb dX8_weightOf_134 (lv_at hl 5 rfl) ?_
              refine xiald (i := k5) (n := 60) hx hb I (hR.2.2.1 12 60 (by decide)) (by omega) (by decide) dX8_weightOf_136 ?_
              have b136 := w12 k5 (by omega)
              refine xiald (i := (mK σ 12 k5)) (n := 24) hx hb I (hR.2.1 10 24 (by decide)) (by omega) (by decide) dX8_weightOf_137 ?_
              refine lv_i2l (v := (mI σ 10 (mK σ 12 k5)).toInt64) hx hb dX8_weightOf_138 rfl ?_
              refine lv_iload hx hb dX8_weightOf_139 (lv_at hl 7 rfl) ?_
              refine lv_iload hx hb dX8_weightOf_141 (lv_at hl 6 rfl) ?_
              refine lv_isub hx hb dX8_weightOf_143 ?_
              refine lv_i2l (v := (v88_0 - v42_0).toInt64) hx hb dX8_weightOf_144 rfl ?_
              refine lv_lmul hx hb dX8_weightOf_145 ?_
              refine lv_goto (tgt := 150) hx hb dX8_weightOf_146 (by decide) ?_
              exact B150 ((mI σ 10 (mK σ 12 k5)).toInt64 * (v88_0 - v42_0).toInt64) hG ls (lv_sub hl [1, 2, 3, 5] rfl)
          refine lv_icmp_ne (tgt := 117) hx hb dX8_weightOf_103 (by decide) (fun c_103 => ?_) (fun c_103 => ?_)
          · skip
            rw [if_neg c_103] at hG
            refine lv_iconst (v := (nI 0)) hx hb dX8_weightOf_117 (by decide) ?_
            exact B118 (nI 0) (Or.inl rfl) hG ls (lv_sub hl [1, 2, 3, 4, 5, 6, 0] rfl)
          · skip
            rw [if_pos c_103] at hG
            refine lv_iload hx hb dX8_weightOf_106 (lv_at hl 0 rfl) ?_
            refine lv_iload hx hb dX8_weightOf_108 (lv_at hl 6 rfl) ?_
            refine lv_icmp_le (tgt := 117) hx hb dX8_weightOf_110 (by decide) (fun c_110 => ?_) (fun c_110 => ?_)
            · skip
              rw [if_pos c_110] at hG
              refine lv_iconst (v := (nI 0)) hx hb dX8_weightOf_117 (by decide) ?_
              exact B118 (nI 0) (Or.inl rfl) hG ls (lv_sub hl [1, 2, 3, 4, 5, 6, 0] rfl)
            · skip
              rw [if_neg c_110] at hG
              refine lv_iconst (v := (nI 1)) hx hb dX8_weightOf_113 (by decide) ?_
              refine lv_goto (tgt := 118) hx hb dX8_weightOf_114 (by decide) ?_
              exact B118 (nI 1) (Or.inr rfl) hG ls (lv_sub hl [1, 2, 3, 4, 5, 6, 0] rfl)
        refine lv_icmp_eq (tgt := 86) hx hb dX8_weightOf_61 (by decide) (fun c_61 => ?_) (fun c_61 => ?_)
        · skip
          rw [if_pos c_61] at hG
          refine lv_iload hx hb dX8_weightOf_86 (lv_at hl 0 rfl) ?_
          exact B88 (nI (100 * y1 + 100)) hG ls (lv_sub hl [2, 3, 4, 5, 6, 1] rfl)
        · skip
          rw [if_neg c_61] at hG
          refine lv_aload_n hx hb dX8_weightOf_64 rfl (lv_at hl 2 rfl) ?_
          refine xget (C := RX8) (T := TX8) (N := 37) 14 hx hb hts hin8 hown I hR.1 rfl (by decide) (List.mem_of_getElem? (i := 3) rfl) rfl rfl dX8_weightOf_65 ?_
          refine lv_iload hx hb dX8_weightOf_68 (lv_at hl 6 rfl) ?_
          refine xiald (i := k5) (n := 60) hx hb I (hR.2.1 14 60 (by decide)) (by omega) (by decide) dX8_weightOf_70 ?_
          refine lv_iload hx hb dX8_weightOf_71 (lv_at hl 0 rfl) ?_
          refine lv_icmp_ge (tgt := 86) hx hb dX8_weightOf_73 (by decide) (fun c_73 => ?_) (fun c_73 => ?_)
          · skip
            rw [if_pos c_73] at hG
            refine lv_iload hx hb dX8_weightOf_86 (lv_at hl 0 rfl) ?_
            exact B88 (nI (100 * y1 + 100)) hG ls (lv_sub hl [2, 3, 4, 5, 6, 1] rfl)
          · skip
            rw [if_neg c_73] at hG
            refine lv_aload_n hx hb dX8_weightOf_76 rfl (lv_at hl 2 rfl) ?_
            refine xget (C := RX8) (T := TX8) (N := 37) 14 hx hb hts hin8 hown I hR.1 rfl (by decide) (List.mem_of_getElem? (i := 3) rfl) rfl rfl dX8_weightOf_77 ?_
            refine lv_iload hx hb dX8_weightOf_80 (lv_at hl 6 rfl) ?_
            refine xiald (i := k5) (n := 60) hx hb I (hR.2.1 14 60 (by decide)) (by omega) (by decide) dX8_weightOf_82 ?_
            refine lv_goto (tgt := 88) hx hb dX8_weightOf_83 (by decide) ?_
            exact B88 (mI σ 14 k5) hG ls (lv_sub hl [2, 3, 4, 5, 6, 1] rfl)
      refine lv_icmp_le (tgt := 38) hx hb dX8_weightOf_25 (by decide) (fun c_25 => ?_) (fun c_25 => ?_)
      · skip
        rw [if_pos c_25] at hG
        refine lv_bipush (v := (nI 100)) hx hb dX8_weightOf_38 (by decide) ?_
        refine lv_iload_n hx hb dX8_weightOf_40 rfl (lv_at hl 2 rfl) ?_
        refine lv_imul hx hb dX8_weightOf_41 ?_
        refine xtop (y := .int (nI (100 * y1))) (congrArg Value.int (pk_mul _ _)) ?_
        exact B42 (nI (100 * y1)) hG ls (lv_sub hl [0, 1, 2, 3, 4] rfl)
      · skip
        rw [if_neg c_25] at hG
        refine lv_aload_n hx hb dX8_weightOf_28 rfl (lv_at hl 0 rfl) ?_
        refine xget (C := RX8) (T := TX8) (N := 37) 13 hx hb hts hin8 hown I hR.1 rfl (by decide) (List.mem_of_getElem? (i := 2) rfl) rfl rfl dX8_weightOf_29 ?_
        refine lv_iload hx hb dX8_weightOf_32 (lv_at hl 4 rfl) ?_
        refine xiald (i := k5) (n := 60) hx hb I (hR.2.1 13 60 (by decide)) (by omega) (by decide) dX8_weightOf_34 ?_
        refine lv_goto (tgt := 42) hx hb dX8_weightOf_35 (by decide) ?_
        exact B42 (mI σ 13 k5) hG ls (lv_sub hl [0, 1, 2, 3, 4] rfl)
  exact L5 (mN σ 11) 0 (0 : Int64) (by omega) hG ls (lv_sub hl [2, 3, 4, 1, 0] rfl)

def fX8_base (σ : MT) (m1 : Nat) (y1 : Nat) : Int64 := (((fX8_weightOf σ m1 y1) * (mI σ 32 y1).toInt64) / (1000 : Int64))
set_option maxHeartbeats 4000000 in
set_option maxRecDepth 100000 in
theorem mX8_base (l : Launch) (lo : Nat) (D : va_G) (E : Nat → ClassId) (h : XW) (σ : MT) (th : Int32) (r : Nat) (ar : Nat → Nat) (hR : RM E σ th r ar h) (hW : MW σ) (m1 : Nat) (y1 : Nat) (hm : m1 < mN σ 2) (hy : y1 < 20) : Met l yX8_base wsX8_base ({ frames := 1, cells := 0, slots := 0, locals := 29 } : Room) (xP lo D E h [.ref r, .int (nI m1), .int (nI y1)]) (xR (some (.long (fX8_base σ m1 y1)))) 0 0 (fun _ => False) := by
  obtain ⟨G, hG⟩ : ∃ G, fX8_base σ m1 y1 = G := ⟨_, rfl⟩
  rw [hG]
  unfold fX8_base at hG
  refine Met.ofW (cc := cX8_base) (maxL := 3) (ret := (some .long)) (by decide) rfl ?_
  intro p e s m args below meth c s₁ B hml hv
  obtain ⟨rfl, I⟩ := hv
  have hx := B.exec
  have hb := B.bytes
  have hr := B.returns
  have hts := atoms_spec (ws := wsX8_base) B.pre
  have hown : s.vm.findClass RX8 = some m.cls := findClass_of_methodNamed B.named
  have hlocks := B.notSynchronized
  have hl := lv_entry ([.ref r, .int (nI m1), .int (nI y1)] : List Value) (n := 3) (Nat.le_of_ble_eq_true rfl)
  rw [lg_entry_eq]
  generalize (lg_sl ([.ref r, .int (nI m1), .int (nI y1)] : List Value) ++ List.replicate (3 - (lg_sl ([.ref r, .int (nI m1), .int (nI y1)] : List Value)).length) Slot.unset).toArray = ls at hl ⊢
  have hl : lv_has ls 3 [(0, .ref r), (1, .int (nI m1)), (2, .int (nI y1))] := hl
  have hin8 : ∀ w ∈ u_ws RX8 TX8 37, w ∈ wsX8_base := fun _ h => List.mem_cons_of_mem _ (List.mem_append_right _ (h))
  have hW0 := hW
  obtain ⟨⟨w1, w2, w3, w4, w5, w6, w7⟩, w9, w12, w21, w22, w23, w25, w31, z26, z27, z28, z36⟩ := id hW
  refine lv_aload_n hx hb dX8_base_0 rfl (lv_at hl 0 rfl) ?_
  refine lv_iload_n hx hb dX8_base_1 rfl (lv_at hl 1 rfl) ?_
  refine lv_iload_n hx hb dX8_base_2 rfl (lv_at hl 2 rfl) ?_
  refine xcvR (As := [.int (nI m1), .int (nI y1)]) (rest := []) (v := some (.long (fX8_weightOf σ m1 y1))) ⟨hx, hb, hml, hown, hts⟩ (mX8_weightOf l lo D E h σ th r ar hR hW m1 y1  (by first | assumption | omega) (by first | assumption | omega)) (cwV 2 hts gX8_base_X8_weightOf rfl rfl rfl (by decide +kernel) ⟨Nat.le_of_ble_eq_true rfl, Nat.le_of_ble_eq_true rfl⟩) I hR.1 rfl rfl hl.1 rfl (Nat.le_of_ble_eq_true rfl) dX8_base_3 ⟨Nat.le_of_ble_eq_true rfl, Nat.le_of_ble_eq_true rfl⟩ ?_
  refine W.eq (g2 := F0 m 6 ls [.long (fX8_weightOf σ m1 y1)]) rfl ?_
  refine lv_aload_n hx hb dX8_base_6 rfl (lv_at hl 0 rfl) ?_
  refine xget (C := RX8) (T := TX8) (N := 37) 32 hx hb hts hin8 hown I hR.1 rfl (by decide) (List.mem_of_getElem? (i := 1) rfl) rfl rfl dX8_base_7 ?_
  refine lv_iload_n hx hb dX8_base_10 rfl (lv_at hl 2 rfl) ?_
  refine xiald (i := y1) (n := 20) hx hb I (hR.2.1 32 20 (by decide)) (by omega) (by decide) dX8_base_11 ?_
  refine lv_i2l (v := (mI σ 32 y1).toInt64) hx hb dX8_base_12 rfl ?_
  refine lv_lmul hx hb dX8_base_13 ?_
  refine lv_ldc2 (v := (1000 : Int64)) hx hb hown (hts _ (List.mem_of_getElem? (i := 2) rfl)) dX8_base_14 ?_
  refine lv_ldiv hx hb dX8_base_17 (by decide) ?_
  exact xrlR hx hb hr hlocks dX8_base_18 hG

def fX8_dueOf_B41 (σ : MT) (m1 : Nat) (y1 : Nat) (v41_0 : Int64) : Int64 := (v41_0 + ((v41_0 * (mI σ 33 y1).toInt64) / (100 : Int64)))
def fX8_dueOf (σ : MT) (m1 : Nat) (y1 : Nat) : Int64 := (if (mI σ 6 (20 * m1 + y1)) ≤ 0 then (fX8_dueOf_B41 σ m1 y1 (if (nI (mN σ 34)) ≤ (nI y1) then (fX8_base σ m1 y1) else (0 : Int64))) else (mL σ 7 (20 * m1 + y1)))
set_option maxHeartbeats 4000000 in
set_option maxRecDepth 100000 in
theorem mX8_dueOf (l : Launch) (lo : Nat) (D : va_G) (E : Nat → ClassId) (h : XW) (σ : MT) (th : Int32) (r : Nat) (ar : Nat → Nat) (hR : RM E σ th r ar h) (hW : MW σ) (m1 : Nat) (y1 : Nat) (hm : m1 < mN σ 2) (hy : y1 < 20) : Met l yX8_dueOf wsX8_dueOf ({ frames := 2, cells := 0, slots := 0, locals := 51 } : Room) (xP lo D E h [.ref r, .int (nI m1), .int (nI y1)]) (xR (some (.long (fX8_dueOf σ m1 y1)))) 0 0 (fun _ => False) := by
  obtain ⟨G, hG⟩ : ∃ G, fX8_dueOf σ m1 y1 = G := ⟨_, rfl⟩
  rw [hG]
  unfold fX8_dueOf at hG
  refine Met.ofW (cc := cX8_dueOf) (maxL := 6) (ret := (some .long)) (by decide) rfl ?_
  intro p e s m args below meth c s₁ B hml hv
  obtain ⟨rfl, I⟩ := hv
  have hx := B.exec
  have hb := B.bytes
  have hr := B.returns
  have hts := atoms_spec (ws := wsX8_dueOf) B.pre
  have hown : s.vm.findClass RX8 = some m.cls := findClass_of_methodNamed B.named
  have hlocks := B.notSynchronized
  have hl := lv_entry ([.ref r, .int (nI m1), .int (nI y1)] : List Value) (n := 6) (Nat.le_of_ble_eq_true rfl)
  rw [lg_entry_eq]
  generalize (lg_sl ([.ref r, .int (nI m1), .int (nI y1)] : List Value) ++ List.replicate (6 - (lg_sl ([.ref r, .int (nI m1), .int (nI y1)] : List Value)).length) Slot.unset).toArray = ls at hl ⊢
  have hl : lv_has ls 6 [(0, .ref r), (1, .int (nI m1)), (2, .int (nI y1))] := hl
  have hin8 : ∀ w ∈ u_ws RX8 TX8 37, w ∈ wsX8_dueOf := fun _ h => List.mem_cons_of_mem _ (List.mem_append_right _ (h))
  have hW0 := hW
  obtain ⟨⟨w1, w2, w3, w4, w5, w6, w7⟩, w9, w12, w21, w22, w23, w25, w31, z26, z27, z28, z36⟩ := id hW
  refine lv_bipush (v := (nI 20)) hx hb dX8_dueOf_0 (by decide) ?_
  refine lv_iload_n hx hb dX8_dueOf_2 rfl (lv_at hl 1 rfl) ?_
  refine lv_imul hx hb dX8_dueOf_3 ?_
  refine xtop (y := .int (nI (20 * m1))) (congrArg Value.int (pk_mul _ _)) ?_
  refine lv_iload_n hx hb dX8_dueOf_4 rfl (lv_at hl 2 rfl) ?_
  refine lv_iadd hx hb dX8_dueOf_5 ?_
  refine xtop (y := .int (nI (20 * m1 + y1))) (congrArg Value.int (nI_add _ _)) ?_
  refine lv_istore_n (lv' := [(3, .int (nI (20 * m1 + y1))), (0, .ref r), (1, .int (nI m1)), (2, .int (nI y1))]) hx hb dX8_dueOf_6 rfl hl (by decide) rfl (fun ls hl => ?_)
  refine lv_aload_n hx hb dX8_dueOf_7 rfl (lv_at hl 1 rfl) ?_
  refine xget (C := RX8) (T := TX8) (N := 37) 6 hx hb hts hin8 hown I hR.1 rfl (by decide) (List.mem_of_getElem? (i := 1) rfl) rfl rfl dX8_dueOf_8 ?_
  refine lv_iload_n hx hb dX8_dueOf_11 rfl (lv_at hl 0 rfl) ?_
  refine xiald (i := (20 * m1 + y1)) (n := 240) hx hb I (hR.2.1 6 240 (by decide)) (by omega) (by decide) dX8_dueOf_12 ?_
  refine lv_if_le (tgt := 23) hx hb dX8_dueOf_13 (by decide) (fun c_13 => ?_) (fun c_13 => ?_)
  · skip
    rw [if_pos c_13] at hG
    refine lv_iload_n hx hb dX8_dueOf_23 rfl (lv_at hl 3 rfl) ?_
    refine lv_aload_n hx hb dX8_dueOf_24 rfl (lv_at hl 1 rfl) ?_
    refine xget (C := RX8) (T := TX8) (N := 37) 34 hx hb hts hin8 hown I hR.1 rfl (by decide) (List.mem_of_getElem? (i := 3) rfl) rfl rfl dX8_dueOf_25 ?_
    have B41 : ∀ (v41_0 : Int64), fX8_dueOf_B41 σ m1 y1 v41_0 = G → ∀ ls : Array Slot, lv_has ls 6 [(0, .ref r), (2, .int (nI y1))] → W p l e (headSpec wsX8_dueOf ({ frames := 2, cells := 0, slots := 0, locals := 51 } : Room)).room s m ([.ref r, .int (nI m1), .int (nI y1)] : List Value).toArray below meth c s.heap [] 0 0 (MQ below (xR (some (.long G))) ([.ref r, .int (nI m1), .int (nI y1)] : List Value).toArray s 0 0 (fun _ => False)) (F0 m 41 ls [.long v41_0]) := by
      intro v41_0 hG ls hl
      unfold fX8_dueOf_B41 at hG
      refine lv_lstore (lv' := [(4, .long v41_0), (0, .ref r), (2, .int (nI y1))]) hx hb dX8_dueOf_41 hl (by decide) rfl (fun ls hl => ?_)
      refine lv_lload hx hb dX8_dueOf_43 (lv_at hl 0 rfl) ?_
      refine lv_lload hx hb dX8_dueOf_45 (lv_at hl 0 rfl) ?_
      refine lv_aload_n hx hb dX8_dueOf_47 rfl (lv_at hl 1 rfl) ?_
      refine xget (C := RX8) (T := TX8) (N := 37) 33 hx hb hts hin8 hown I hR.1 rfl (by decide) (List.mem_of_getElem? (i := 4) rfl) rfl rfl dX8_dueOf_48 ?_
      refine lv_iload_n hx hb dX8_dueOf_51 rfl (lv_at hl 2 rfl) ?_
      refine xiald (i := y1) (n := 20) hx hb I (hR.2.1 33 20 (by decide)) (by omega) (by decide) dX8_dueOf_52 ?_
      refine lv_i2l (v := (mI σ 33 y1).toInt64) hx hb dX8_dueOf_53 rfl ?_
      refine lv_lmul hx hb dX8_dueOf_54 ?_
      refine lv_ldc2 (v := (100 : Int64)) hx hb hown (hts _ (List.mem_of_getElem? (i := 5) rfl)) dX8_dueOf_55 ?_
      refine lv_ldiv hx hb dX8_dueOf_58 (by decide) ?_
      refine lv_ladd hx hb dX8_dueOf_59 ?_
      exact xrlR hx hb hr hlocks dX8_dueOf_60 hG
    refine lv_icmp_ge (tgt := 35) hx hb dX8_dueOf_28 (by decide) (fun c_28 => ?_) (fun c_28 => ?_)
    · skip
      rw [if_pos c_28] at hG
      refine lv_aload_n hx hb dX8_dueOf_35 rfl (lv_at hl 1 rfl) ?_
      refine lv_iload_n hx hb dX8_dueOf_36 rfl (lv_at hl 2 rfl) ?_
      refine lv_iload_n hx hb dX8_dueOf_37 rfl (lv_at hl 3 rfl) ?_
      refine xcvR (As := [.int (nI m1), .int (nI y1)]) (rest := []) (v := some (.long (fX8_base σ m1 y1))) ⟨hx, hb, hml, hown, hts⟩ (mX8_base l lo D E h σ th r ar hR hW m1 y1  (by first | assumption | omega) (by first | assumption | omega)) (cwV 2 hts gX8_dueOf_X8_base rfl rfl rfl (by decide +kernel) ⟨Nat.le_of_ble_eq_true rfl, Nat.le_of_ble_eq_true rfl⟩) I hR.1 rfl rfl hl.1 rfl (Nat.le_of_ble_eq_true rfl) dX8_dueOf_38 ⟨Nat.le_of_ble_eq_true rfl, Nat.le_of_ble_eq_true rfl⟩ ?_
      refine W.eq (g2 := F0 m 41 ls [.long (fX8_base σ m1 y1)]) rfl ?_
      exact B41 (fX8_base σ m1 y1) hG ls (lv_sub hl [1, 3] rfl)
    · skip
      rw [if_neg c_28] at hG
      refine lv_lconst (v := (0 : Int64)) hx hb dX8_dueOf_31 rfl ?_
      refine lv_goto (tgt := 41) hx hb dX8_dueOf_32 (by decide) ?_
      exact B41 (0 : Int64) hG ls (lv_sub hl [1, 3] rfl)
  · skip
    rw [if_neg c_13] at hG
    refine lv_aload_n hx hb dX8_dueOf_16 rfl (lv_at hl 1 rfl) ?_
    refine xget (C := RX8) (T := TX8) (N := 37) 7 hx hb hts hin8 hown I hR.1 rfl (by decide) (List.mem_of_getElem? (i := 2) rfl) rfl rfl dX8_dueOf_17 ?_
    refine lv_iload_n hx hb dX8_dueOf_20 rfl (lv_at hl 0 rfl) ?_
    refine xlald (i := (20 * m1 + y1)) (n := 240) hx hb I (hR.2.2.2.1 7 240 (by decide)) (by omega) (by decide) dX8_dueOf_21 ?_
    exact xrlR hx hb hr hlocks dX8_dueOf_22 hG

def fX8_canRelease (σ : MT) (m1 : Nat) (y1 : Nat) : Int32 := (if (nI y1) < (nI (mN σ 34)) then (nI 0) else (if (mI σ 6 (20 * m1 + y1)) = 0 then (if (fX8_weightOf σ m1 y1) ≤ (0 : Int64) then (nI 0) else (nI 1)) else (nI 0)))
set_option maxHeartbeats 4000000 in
set_option maxRecDepth 100000 in
theorem mX8_canRelease (l : Launch) (lo : Nat) (D : va_G) (E : Nat → ClassId) (h : XW) (σ : MT) (th : Int32) (r : Nat) (ar : Nat → Nat) (hR : RM E σ th r ar h) (hW : MW σ) (m1 : Nat) (y1 : Nat) (hm : m1 < mN σ 2) (hy : y1 < 20) : Met l yX8_canRelease wsX8_canRelease ({ frames := 1, cells := 0, slots := 0, locals := 29 } : Room) (xP lo D E h [.ref r, .int (nI m1), .int (nI y1)]) (xR (some (.int (fX8_canRelease σ m1 y1)))) 0 0 (fun _ => False) := by
  obtain ⟨G, hG⟩ : ∃ G, fX8_canRelease σ m1 y1 = G := ⟨_, rfl⟩
  rw [hG]
  unfold fX8_canRelease at hG
  refine Met.ofW (cc := cX8_canRelease) (maxL := 3) (ret := (some .boolean)) (by decide) rfl ?_
  intro p e s m args below meth c s₁ B hml hv
  obtain ⟨rfl, I⟩ := hv
  have hx := B.exec
  have hb := B.bytes
  have hr := B.returns
  have hts := atoms_spec (ws := wsX8_canRelease) B.pre
  have hown : s.vm.findClass RX8 = some m.cls := findClass_of_methodNamed B.named
  have hlocks := B.notSynchronized
  have hl := lv_entry ([.ref r, .int (nI m1), .int (nI y1)] : List Value) (n := 3) (Nat.le_of_ble_eq_true rfl)
  rw [lg_entry_eq]
  generalize (lg_sl ([.ref r, .int (nI m1), .int (nI y1)] : List Value) ++ List.replicate (3 - (lg_sl ([.ref r, .int (nI m1), .int (nI y1)] : List Value)).length) Slot.unset).toArray = ls at hl ⊢
  have hl : lv_has ls 3 [(0, .ref r), (1, .int (nI m1)), (2, .int (nI y1))] := hl
  have hin8 : ∀ w ∈ u_ws RX8 TX8 37, w ∈ wsX8_canRelease := fun _ h => List.mem_cons_of_mem _ (List.mem_append_right _ (h))
  have hW0 := hW
  obtain ⟨⟨w1, w2, w3, w4, w5, w6, w7⟩, w9, w12, w21, w22, w23, w25, w31, z26, z27, z28, z36⟩ := id hW
  refine lv_iload_n hx hb dX8_canRelease_0 rfl (lv_at hl 2 rfl) ?_
  refine lv_aload_n hx hb dX8_canRelease_1 rfl (lv_at hl 0 rfl) ?_
  refine xget (C := RX8) (T := TX8) (N := 37) 34 hx hb hts hin8 hown I hR.1 rfl (by decide) (List.mem_of_getElem? (i := 1) rfl) rfl rfl dX8_canRelease_2 ?_
  refine lv_icmp_lt (tgt := 37) hx hb dX8_canRelease_5 (by decide) (fun c_5 => ?_) (fun c_5 => ?_)
  · skip
    rw [if_pos c_5] at hG
    refine lv_iconst (v := (nI 0)) hx hb dX8_canRelease_37 (by decide) ?_
    exact xrzR hx hb hr hlocks dX8_canRelease_38 hG (by have hG2 : (nI 0) = G := hG; rw [← hG2]; exact xnb (Or.inl rfl))
  · skip
    rw [if_neg c_5] at hG
    refine lv_aload_n hx hb dX8_canRelease_8 rfl (lv_at hl 0 rfl) ?_
    refine xget (C := RX8) (T := TX8) (N := 37) 6 hx hb hts hin8 hown I hR.1 rfl (by decide) (List.mem_of_getElem? (i := 2) rfl) rfl rfl dX8_canRelease_9 ?_
    refine lv_bipush (v := (nI 20)) hx hb dX8_canRelease_12 (by decide) ?_
    refine lv_iload_n hx hb dX8_canRelease_14 rfl (lv_at hl 1 rfl) ?_
    refine lv_imul hx hb dX8_canRelease_15 ?_
    refine xtop (y := .int (nI (20 * m1))) (congrArg Value.int (pk_mul _ _)) ?_
    refine lv_iload_n hx hb dX8_canRelease_16 rfl (lv_at hl 2 rfl) ?_
    refine lv_iadd hx hb dX8_canRelease_17 ?_
    refine xtop (y := .int (nI (20 * m1 + y1))) (congrArg Value.int (nI_add _ _)) ?_
    refine xiald (i := (20 * m1 + y1)) (n := 240) hx hb I (hR.2.1 6 240 (by decide)) (by omega) (by decide) dX8_canRelease_18 ?_
    refine lv_if_ne (tgt := 37) hx hb dX8_canRelease_19 (by decide) (fun c_19 => ?_) (fun c_19 => ?_)
    · skip
      rw [if_neg c_19] at hG
      refine lv_iconst (v := (nI 0)) hx hb dX8_canRelease_37 (by decide) ?_
      exact xrzR hx hb hr hlocks dX8_canRelease_38 hG (by have hG2 : (nI 0) = G := hG; rw [← hG2]; exact xnb (Or.inl rfl))
    · skip
      rw [if_pos c_19] at hG
      refine lv_aload_n hx hb dX8_canRelease_22 rfl (lv_at hl 0 rfl) ?_
      refine lv_iload_n hx hb dX8_canRelease_23 rfl (lv_at hl 1 rfl) ?_
      refine lv_iload_n hx hb dX8_canRelease_24 rfl (lv_at hl 2 rfl) ?_
      refine xcvR (As := [.int (nI m1), .int (nI y1)]) (rest := []) (v := some (.long (fX8_weightOf σ m1 y1))) ⟨hx, hb, hml, hown, hts⟩ (mX8_weightOf l lo D E h σ th r ar hR hW m1 y1  (by first | assumption | omega) (by first | assumption | omega)) (cwV 2 hts gX8_canRelease_X8_weightOf rfl rfl rfl (by decide +kernel) ⟨Nat.le_of_ble_eq_true rfl, Nat.le_of_ble_eq_true rfl⟩) I hR.1 rfl rfl hl.1 rfl (Nat.le_of_ble_eq_true rfl) dX8_canRelease_25 ⟨Nat.le_of_ble_eq_true rfl, Nat.le_of_ble_eq_true rfl⟩ ?_
      refine W.eq (g2 := F0 m 28 ls [.long (fX8_weightOf σ m1 y1)]) rfl ?_
      refine lv_lconst (v := (0 : Int64)) hx hb dX8_canRelease_28 rfl ?_
      refine xl_le (tgt := 37) hx hb dX8_canRelease_29 dX8_canRelease_30 (by decide) (fun c_29 => ?_) (fun c_29 => ?_)
      · skip
        rw [if_pos c_29] at hG
        refine lv_iconst (v := (nI 0)) hx hb dX8_canRelease_37 (by decide) ?_
        exact xrzR hx hb hr hlocks dX8_canRelease_38 hG (by have hG2 : (nI 0) = G := hG; rw [← hG2]; exact xnb (Or.inl rfl))
      · skip
        rw [if_neg c_29] at hG
        refine lv_iconst (v := (nI 1)) hx hb dX8_canRelease_33 (by decide) ?_
        refine lv_goto (tgt := 38) hx hb dX8_canRelease_34 (by decide) ?_
        exact xrzR hx hb hr hlocks dX8_canRelease_38 hG (by have hG2 : (nI 1) = G := hG; rw [← hG2]; exact xnb (Or.inr rfl))

def fX8_owesOf_S11 (σ : MT) (m1 : Nat) (k11 : Nat) (a11_2 : Int64) : (Int64) := (a11_2 + (fX8_dueOf σ m1 k11))
def fX8_owesOf_L11 (σ : MT) (m1 : Nat) : Nat → Nat → Int64 → Int64
  | 0, k11, a11_2 => a11_2
  | n11 + 1, k11, a11_2 => lseq (fX8_owesOf_S11 σ m1 k11 a11_2) (fun q => fX8_owesOf_L11 σ m1 n11 (k11 + 1) q)
def fX8_owesOf (σ : MT) (m1 : Nat) : Int64 := (fX8_owesOf_L11 σ m1 20 0 (-(mL σ 4 m1)))
set_option maxHeartbeats 4000000 in
set_option maxRecDepth 100000 in
theorem mX8_owesOf (l : Launch) (lo : Nat) (D : va_G) (E : Nat → ClassId) (h : XW) (σ : MT) (th : Int32) (r : Nat) (ar : Nat → Nat) (hR : RM E σ th r ar h) (hW : MW σ) (m1 : Nat) (hm : m1 < mN σ 2) : Met l yX8_owesOf wsX8_owesOf ({ frames := 3, cells := 0, slots := 0, locals := 76 } : Room) (xP lo D E h [.ref r, .int (nI m1)]) (xR (some (.long (fX8_owesOf σ m1)))) 0 0 (fun _ => False) := by
  obtain ⟨G, hG⟩ : ∃ G, fX8_owesOf σ m1 = G := ⟨_, rfl⟩
  rw [hG]
  unfold fX8_owesOf at hG
  refine Met.ofW (cc := cX8_owesOf) (maxL := 5) (ret := (some .long)) (by decide) rfl ?_
  intro p e s m args below meth c s₁ B hml hv
  obtain ⟨rfl, I⟩ := hv
  have hx := B.exec
  have hb := B.bytes
  have hr := B.returns
  have hts := atoms_spec (ws := wsX8_owesOf) B.pre
  have hown : s.vm.findClass RX8 = some m.cls := findClass_of_methodNamed B.named
  have hlocks := B.notSynchronized
  have hl := lv_entry ([.ref r, .int (nI m1)] : List Value) (n := 5) (Nat.le_of_ble_eq_true rfl)
  rw [lg_entry_eq]
  generalize (lg_sl ([.ref r, .int (nI m1)] : List Value) ++ List.replicate (5 - (lg_sl ([.ref r, .int (nI m1)] : List Value)).length) Slot.unset).toArray = ls at hl ⊢
  have hl : lv_has ls 5 [(0, .ref r), (1, .int (nI m1))] := hl
  have hin8 : ∀ w ∈ u_ws RX8 TX8 37, w ∈ wsX8_owesOf := fun _ h => List.mem_cons_of_mem _ (List.mem_append_right _ (h))
  have hW0 := hW
  obtain ⟨⟨w1, w2, w3, w4, w5, w6, w7⟩, w9, w12, w21, w22, w23, w25, w31, z26, z27, z28, z36⟩ := id hW
  refine lv_aload_n hx hb dX8_owesOf_0 rfl (lv_at hl 0 rfl) ?_
  refine xget (C := RX8) (T := TX8) (N := 37) 4 hx hb hts hin8 hown I hR.1 rfl (by decide) (List.mem_of_getElem? (i := 1) rfl) rfl rfl dX8_owesOf_1 ?_
  refine lv_iload_n hx hb dX8_owesOf_4 rfl (lv_at hl 1 rfl) ?_
  refine xlald (i := m1) (n := 12) hx hb I (hR.2.2.2.1 4 12 (by decide)) (by omega) (by decide) dX8_owesOf_5 ?_
  refine lv_lneg hx hb dX8_owesOf_6 ?_
  refine lv_lstore_n (lv' := [(2, .long (-(mL σ 4 m1))), (0, .ref r), (1, .int (nI m1))]) hx hb dX8_owesOf_7 rfl hl (by decide) rfl (fun ls hl => ?_)
  refine lv_iconst (v := (nI 0)) hx hb dX8_owesOf_8 (by decide) ?_
  refine lv_istore (lv' := [(4, .int (nI 0)), (2, .long (-(mL σ 4 m1))), (0, .ref r), (1, .int (nI m1))]) hx hb dX8_owesOf_9 hl (by decide) rfl (fun ls hl => ?_)
  have L11 : ∀ (n11 : Nat) (k11 : Nat) (a11_2 : Int64), k11 + n11 = 20 → fX8_owesOf_L11 σ m1 n11 k11 a11_2 = G → ∀ ls : Array Slot, lv_has ls 5 [(0, .ref r), (1, .int (nI m1)), (2, .long a11_2), (4, .int (nI k11))] → W p l e (headSpec wsX8_owesOf ({ frames := 3, cells := 0, slots := 0, locals := 76 } : Room)).room s m ([.ref r, .int (nI m1)] : List Value).toArray below meth c s.heap [] 0 0 (MQ below (xR (some (.long G))) ([.ref r, .int (nI m1)] : List Value).toArray s 0 0 (fun _ => False)) (F0 m 11 ls []) := by
    intro n11
    induction n11 with
    | zero =>
      intro k11 a11_2 hkn hG ls hl
      have hkN : k11 = 20 := by omega
      have hG : a11_2 = G := hG
      refine lv_iload hx hb dX8_owesOf_11 (lv_at hl 3 rfl) ?_
      refine lv_bipush (v := (nI 20)) hx hb dX8_owesOf_13 (by decide) ?_
      refine lv_icmp_ge (tgt := 34) hx hb dX8_owesOf_15 (by decide) (fun _ => ?_) (fun q => absurd (nI_le (Nat.le_of_eq hkN.symm) (by omega)) q)
      refine lv_lload_n hx hb dX8_owesOf_34 rfl (lv_at hl 2 rfl) ?_
      exact xrlR hx hb hr hlocks dX8_owesOf_35 hG
    | succ n11 ih =>
      intro k11 a11_2 hkn hG ls hl
      have hk : k11 < 20 := by omega
      have hG : lseq ((a11_2 + (fX8_dueOf σ m1 k11))) (fun q => fX8_owesOf_L11 σ m1 n11 (k11 + 1) q) = G := hG
      refine lv_iload hx hb dX8_owesOf_11 (lv_at hl 3 rfl) ?_
      refine lv_bipush (v := (nI 20)) hx hb dX8_owesOf_13 (by decide) ?_
      refine lv_icmp_ge (tgt := 34) hx hb dX8_owesOf_15 (by decide) (fun q => absurd q (nI_ge hk (by omega))) (fun _ => ?_)
      refine lv_lload_n hx hb dX8_owesOf_18 rfl (lv_at hl 2 rfl) ?_
      refine lv_aload_n hx hb dX8_owesOf_19 rfl (lv_at hl 0 rfl) ?_
      refine lv_iload_n hx hb dX8_owesOf_20 rfl (lv_at hl 1 rfl) ?_
      refine lv_iload hx hb dX8_owesOf_21 (lv_at hl 3 rfl) ?_
      refine xcvR (As := [.int (nI m1), .int (nI k11)]) (rest := [.long a11_2]) (v := some (.long (fX8_dueOf σ m1 k11))) ⟨hx, hb, hml, hown, hts⟩ (mX8_dueOf l lo D E h σ th r ar hR hW m1 k11  (by first | assumption | omega) (by first | assumption | omega)) (cwV 2 hts gX8_owesOf_X8_dueOf rfl rfl rfl (by decide +kernel) ⟨Nat.le_of_ble_eq_true rfl, Nat.le_of_ble_eq_true rfl⟩) I hR.1 rfl rfl hl.1 rfl (Nat.le_of_ble_eq_true rfl) dX8_owesOf_23 ⟨Nat.le_of_ble_eq_true rfl, Nat.le_of_ble_eq_true rfl⟩ ?_
      refine W.eq (g2 := F0 m 26 ls [.long (fX8_dueOf σ m1 k11), .long a11_2]) rfl ?_
      refine lv_ladd hx hb dX8_owesOf_26 ?_
      refine lv_lstore_n (lv' := [(2, .long (a11_2 + (fX8_dueOf σ m1 k11))), (0, .ref r), (1, .int (nI m1)), (4, .int (nI k11))]) hx hb dX8_owesOf_27 rfl hl (by decide) rfl (fun ls hl => ?_)
      refine lv_iinc (v := (nI (k11 + 1))) (lv' := [(4, .int (nI (k11 + 1))), (2, .long (a11_2 + (fX8_dueOf σ m1 k11))), (0, .ref r), (1, .int (nI m1))]) hx hb dX8_owesOf_28 hl (k := 3) rfl (nI_succ k11).symm (by decide) rfl (fun ls hl => ?_)
      refine lv_goto (tgt := 11) hx hb dX8_owesOf_31 (by decide) ?_
      exact ih (k11 + 1) (a11_2 + (fX8_dueOf σ m1 k11)) (by omega) hG ls (lv_sub hl [2, 3, 1, 0] rfl)
  exact L11 20 0 (-(mL σ 4 m1)) (by omega) hG ls (lv_sub hl [2, 3, 1, 0] rfl)

def fX8_isCovered_B80 (σ : MT) (c1 : Nat) (k27 : Nat) (a27_2 : Int32) (v80_0 : Int32) : (Int32) := (if a27_2 = 0 then (if (nI (mK σ 12 k27)) = (nI (mK σ 21 c1)) then (if v80_0 = 0 then (nI 0) else (nI 1)) else (nI 0)) else (nI 1))
def fX8_isCovered_S27 (σ : MT) (c1 : Nat) (k27 : Nat) (a27_2 : Int32) : (Int32) := (fX8_isCovered_B80 σ c1 k27 a27_2 (if (nI (mK σ 23 c1)) < (mI σ 13 k27) then (nI 0) else (if (mI σ 14 k27) = (-1) then (nI 1) else (if (mI σ 14 k27) ≤ (nI (mK σ 23 c1)) then (nI 0) else (nI 1)))))
def fX8_isCovered_L27 (σ : MT) (c1 : Nat) : Nat → Nat → Int32 → Int32
  | 0, k27, a27_2 => (if a27_2 = 0 then (nI 0) else (if (mI σ 5 (mK σ 9 (mK σ 21 c1))) = (-1) then (nI 1) else (if (mI σ 5 (mK σ 9 (mK σ 21 c1))) ≤ (nI (mK σ 23 c1)) then (nI 0) else (nI 1))))
  | n27 + 1, k27, a27_2 => lseq (fX8_isCovered_S27 σ c1 k27 a27_2) (fun q => fX8_isCovered_L27 σ c1 n27 (k27 + 1) q)
def fX8_isCovered (σ : MT) (c1 : Nat) : Int32 := (if (nI (mN σ 34)) ≤ (nI ((mK σ 23 c1) / 100)) then (fX8_isCovered_L27 σ c1 (mN σ 11) 0 (nI 0)) else (mI σ 28 c1))
set_option maxHeartbeats 4000000 in
set_option maxRecDepth 100000 in
theorem mX8_isCovered (l : Launch) (lo : Nat) (D : va_G) (E : Nat → ClassId) (h : XW) (σ : MT) (th : Int32) (r : Nat) (ar : Nat → Nat) (hR : RM E σ th r ar h) (hW : MW σ) (c1 : Nat) (hc : c1 < mN σ 20) : Met l yX8_isCovered wsX8_isCovered ({ frames := 0, cells := 0, slots := 0, locals := 0 } : Room) (xP lo D E h [.ref r, .int (nI c1)]) (xR (some (.int (fX8_isCovered σ c1)))) 0 0 (fun _ => False) := by
  obtain ⟨G, hG⟩ : ∃ G, fX8_isCovered σ c1 = G := ⟨_, rfl⟩
  rw [hG]
  unfold fX8_isCovered at hG
  refine Met.ofW (cc := cX8_isCovered) (maxL := 5) (ret := (some .boolean)) (by decide) rfl ?_
  intro p e s m args below meth c s₁ B hml hv
  obtain ⟨rfl, I⟩ := hv
  have hx := B.exec
  have hb := B.bytes
  have hr := B.returns
  have hts := atoms_spec (ws := wsX8_isCovered) B.pre
  have hown : s.vm.findClass RX8 = some m.cls := findClass_of_methodNamed B.named
  have hlocks := B.notSynchronized
  have hl := lv_entry ([.ref r, .int (nI c1)] : List Value) (n := 5) (Nat.le_of_ble_eq_true rfl)
  rw [lg_entry_eq]
  generalize (lg_sl ([.ref r, .int (nI c1)] : List Value) ++ List.replicate (5 - (lg_sl ([.ref r, .int (nI c1)] : List Value)).length) Slot.unset).toArray = ls at hl ⊢
  have hl : lv_has ls 5 [(0, .ref r), (1, .int (nI c1))] := hl
  have hin8 : ∀ w ∈ u_ws RX8 TX8 37, w ∈ wsX8_isCovered := fun _ h => List.mem_cons_of_mem _ (List.mem_append_right _ (h))
  have hW0 := hW
  obtain ⟨⟨w1, w2, w3, w4, w5, w6, w7⟩, w9, w12, w21, w22, w23, w25, w31, z26, z27, z28, z36⟩ := id hW
  refine lv_aload_n hx hb dX8_isCovered_0 rfl (lv_at hl 0 rfl) ?_
  refine xget (C := RX8) (T := TX8) (N := 37) 23 hx hb hts hin8 hown I hR.1 rfl (by decide) (List.mem_of_getElem? (i := 1) rfl) rfl rfl dX8_isCovered_1 ?_
  refine lv_iload_n hx hb dX8_isCovered_4 rfl (lv_at hl 1 rfl) ?_
  refine xiald (i := c1) (n := 60) hx hb I (hR.2.2.1 23 60 (by decide)) (by omega) (by decide) dX8_isCovered_5 ?_
  have b5 := w23 c1 (by omega)
  refine lv_bipush (v := (nI 100)) hx hb dX8_isCovered_6 (by decide) ?_
  refine lv_idiv hx hb dX8_isCovered_8 (by decide) ?_
  refine xtop (y := .int (nI ((mK σ 23 c1) / 100))) (congrArg Value.int (pk_div (by omega) (by decide) (by decide))) ?_
  refine lv_aload_n hx hb dX8_isCovered_9 rfl (lv_at hl 0 rfl) ?_
  refine xget (C := RX8) (T := TX8) (N := 37) 34 hx hb hts hin8 hown I hR.1 rfl (by decide) (List.mem_of_getElem? (i := 2) rfl) rfl rfl dX8_isCovered_10 ?_
  refine lv_icmp_ge (tgt := 23) hx hb dX8_isCovered_13 (by decide) (fun c_13 => ?_) (fun c_13 => ?_)
  · skip
    rw [if_pos c_13] at hG
    refine lv_iconst (v := (nI 0)) hx hb dX8_isCovered_23 (by decide) ?_
    refine lv_istore_n (lv' := [(2, .int (nI 0)), (0, .ref r), (1, .int (nI c1))]) hx hb dX8_isCovered_24 rfl hl (by decide) rfl (fun ls hl => ?_)
    refine lv_iconst (v := (nI 0)) hx hb dX8_isCovered_25 (by decide) ?_
    refine lv_istore_n (lv' := [(3, .int (nI 0)), (2, .int (nI 0)), (0, .ref r), (1, .int (nI c1))]) hx hb dX8_isCovered_26 rfl hl (by decide) rfl (fun ls hl => ?_)
    have L27 : ∀ (n27 : Nat) (k27 : Nat) (a27_2 : Int32), k27 + n27 = mN σ 11 → (a27_2 = 0 ∨ a27_2 = 1) → fX8_isCovered_L27 σ c1 n27 k27 a27_2 = G → ∀ ls : Array Slot, lv_has ls 5 [(0, .ref r), (1, .int (nI c1)), (2, .int a27_2), (3, .int (nI k27))] → W p l e (headSpec wsX8_isCovered ({ frames := 0, cells := 0, slots := 0, locals := 0 } : Room)).room s m ([.ref r, .int (nI c1)] : List Value).toArray below meth c s.heap [] 0 0 (MQ below (xR (some (.int G))) ([.ref r, .int (nI c1)] : List Value).toArray s 0 0 (fun _ => False)) (F0 m 27 ls []) := by
      intro n27
      induction n27 with
      | zero =>
        intro k27 a27_2 hkn za27_2 hG ls hl
        have hkN : k27 = mN σ 11 := by omega
        have hG : (if a27_2 = 0 then (nI 0) else (if (mI σ 5 (mK σ 9 (mK σ 21 c1))) = (-1) then (nI 1) else (if (mI σ 5 (mK σ 9 (mK σ 21 c1))) ≤ (nI (mK σ 23 c1)) then (nI 0) else (nI 1)))) = G := hG
        refine lv_iload_n hx hb dX8_isCovered_27 rfl (lv_at hl 3 rfl) ?_
        refine lv_aload_n hx hb dX8_isCovered_28 rfl (lv_at hl 0 rfl) ?_
        refine xget (C := RX8) (T := TX8) (N := 37) 11 hx hb hts hin8 hown I hR.1 rfl (by decide) (List.mem_of_getElem? (i := 4) rfl) rfl rfl dX8_isCovered_29 ?_
        refine lv_icmp_ge (tgt := 118) hx hb dX8_isCovered_32 (by decide) (fun _ => ?_) (fun q => absurd (nI_le (Nat.le_of_eq hkN.symm) (by omega)) q)
        refine lv_aload_n hx hb dX8_isCovered_118 rfl (lv_at hl 0 rfl) ?_
        refine xget (C := RX8) (T := TX8) (N := 37) 5 hx hb hts hin8 hown I hR.1 rfl (by decide) (List.mem_of_getElem? (i := 9) rfl) rfl rfl dX8_isCovered_119 ?_
        refine lv_aload_n hx hb dX8_isCovered_122 rfl (lv_at hl 0 rfl) ?_
        refine xget (C := RX8) (T := TX8) (N := 37) 9 hx hb hts hin8 hown I hR.1 rfl (by decide) (List.mem_of_getElem? (i := 10) rfl) rfl rfl dX8_isCovered_123 ?_
        refine lv_aload_n hx hb dX8_isCovered_126 rfl (lv_at hl 0 rfl) ?_
        refine xget (C := RX8) (T := TX8) (N := 37) 21 hx hb hts hin8 hown I hR.1 rfl (by decide) (List.mem_of_getElem? (i := 8) rfl) rfl rfl dX8_isCovered_127 ?_
        refine lv_iload_n hx hb dX8_isCovered_130 rfl (lv_at hl 1 rfl) ?_
        refine xiald (i := c1) (n := 60) hx hb I (hR.2.2.1 21 60 (by decide)) (by omega) (by decide) dX8_isCovered_131 ?_
        have b131 := w21 c1 (by omega)
        refine xiald (i := (mK σ 21 c1)) (n := 24) hx hb I (hR.2.2.1 9 24 (by decide)) (by omega) (by decide) dX8_isCovered_132 ?_
        have b132 := w9 (mK σ 21 c1) (by omega)
        refine xiald (i := (mK σ 9 (mK σ 21 c1))) (n := 12) hx hb I (hR.2.1 5 12 (by decide)) (by omega) (by decide) dX8_isCovered_133 ?_
        refine lv_istore_n (lv' := [(3, .int (mI σ 5 (mK σ 9 (mK σ 21 c1)))), (0, .ref r), (1, .int (nI c1)), (2, .int a27_2)]) hx hb dX8_isCovered_134 rfl hl (by decide) rfl (fun ls hl => ?_)
        refine lv_iload_n hx hb dX8_isCovered_135 rfl (lv_at hl 3 rfl) ?_
        refine lv_if_eq (tgt := 158) hx hb dX8_isCovered_136 (by decide) (fun c_136 => ?_) (fun c_136 => ?_)
        · skip
          rw [if_pos c_136] at hG
          refine lv_iconst (v := (nI 0)) hx hb dX8_isCovered_158 (by decide) ?_
          exact xrzR hx hb hr hlocks dX8_isCovered_159 hG (by have hG2 : (nI 0) = G := hG; rw [← hG2]; exact xnb (Or.inl rfl))
        · skip
          rw [if_neg c_136] at hG
          refine lv_iload_n hx hb dX8_isCovered_139 rfl (lv_at hl 0 rfl) ?_
          refine lv_iconst (v := (-1)) hx hb dX8_isCovered_140 (by decide) ?_
          refine lv_icmp_eq (tgt := 154) hx hb dX8_isCovered_141 (by decide) (fun c_141 => ?_) (fun c_141 => ?_)
          · skip
            rw [if_pos c_141] at hG
            refine lv_iconst (v := (nI 1)) hx hb dX8_isCovered_154 (by decide) ?_
            refine lv_goto (tgt := 159) hx hb dX8_isCovered_155 (by decide) ?_
            exact xrzR hx hb hr hlocks dX8_isCovered_159 hG (by have hG2 : (nI 1) = G := hG; rw [← hG2]; exact xnb (Or.inr rfl))
          · skip
            rw [if_neg c_141] at hG
            refine lv_iload_n hx hb dX8_isCovered_144 rfl (lv_at hl 0 rfl) ?_
            refine lv_aload_n hx hb dX8_isCovered_145 rfl (lv_at hl 1 rfl) ?_
            refine xget (C := RX8) (T := TX8) (N := 37) 23 hx hb hts hin8 hown I hR.1 rfl (by decide) (List.mem_of_getElem? (i := 1) rfl) rfl rfl dX8_isCovered_146 ?_
            refine lv_iload_n hx hb dX8_isCovered_149 rfl (lv_at hl 2 rfl) ?_
            refine xiald (i := c1) (n := 60) hx hb I (hR.2.2.1 23 60 (by decide)) (by omega) (by decide) dX8_isCovered_150 ?_
            have b150 := w23 c1 (by omega)
            refine lv_icmp_le (tgt := 158) hx hb dX8_isCovered_151 (by decide) (fun c_151 => ?_) (fun c_151 => ?_)
            · skip
              rw [if_pos c_151] at hG
              refine lv_iconst (v := (nI 0)) hx hb dX8_isCovered_158 (by decide) ?_
              exact xrzR hx hb hr hlocks dX8_isCovered_159 hG (by have hG2 : (nI 0) = G := hG; rw [← hG2]; exact xnb (Or.inl rfl))
            · skip
              rw [if_neg c_151] at hG
              refine lv_iconst (v := (nI 1)) hx hb dX8_isCovered_154 (by decide) ?_
              refine lv_goto (tgt := 159) hx hb dX8_isCovered_155 (by decide) ?_
              exact xrzR hx hb hr hlocks dX8_isCovered_159 hG (by have hG2 : (nI 1) = G := hG; rw [← hG2]; exact xnb (Or.inr rfl))
      | succ n27 ih =>
        intro k27 a27_2 hkn za27_2 hG ls hl
        have hk : k27 < mN σ 11 := by omega
        have hG : lseq ((fX8_isCovered_B80 σ c1 k27 a27_2 (if (nI (mK σ 23 c1)) < (mI σ 13 k27) then (nI 0) else (if (mI σ 14 k27) = (-1) then (nI 1) else (if (mI σ 14 k27) ≤ (nI (mK σ 23 c1)) then (nI 0) else (nI 1)))))) (fun q => fX8_isCovered_L27 σ c1 n27 (k27 + 1) q) = G := hG
        refine lv_iload_n hx hb dX8_isCovered_27 rfl (lv_at hl 3 rfl) ?_
        refine lv_aload_n hx hb dX8_isCovered_28 rfl (lv_at hl 0 rfl) ?_
        refine xget (C := RX8) (T := TX8) (N := 37) 11 hx hb hts hin8 hown I hR.1 rfl (by decide) (List.mem_of_getElem? (i := 4) rfl) rfl rfl dX8_isCovered_29 ?_
        refine lv_icmp_ge (tgt := 118) hx hb dX8_isCovered_32 (by decide) (fun q => absurd q (nI_ge hk (by omega))) (fun _ => ?_)
        refine lv_aload_n hx hb dX8_isCovered_35 rfl (lv_at hl 0 rfl) ?_
        refine xget (C := RX8) (T := TX8) (N := 37) 13 hx hb hts hin8 hown I hR.1 rfl (by decide) (List.mem_of_getElem? (i := 5) rfl) rfl rfl dX8_isCovered_36 ?_
        refine lv_iload_n hx hb dX8_isCovered_39 rfl (lv_at hl 3 rfl) ?_
        refine xiald (i := k27) (n := 60) hx hb I (hR.2.1 13 60 (by decide)) (by omega) (by decide) dX8_isCovered_40 ?_
        refine lv_aload_n hx hb dX8_isCovered_41 rfl (lv_at hl 0 rfl) ?_
        refine xget (C := RX8) (T := TX8) (N := 37) 23 hx hb hts hin8 hown I hR.1 rfl (by decide) (List.mem_of_getElem? (i := 1) rfl) rfl rfl dX8_isCovered_42 ?_
        refine lv_iload_n hx hb dX8_isCovered_45 rfl (lv_at hl 1 rfl) ?_
        refine xiald (i := c1) (n := 60) hx hb I (hR.2.2.1 23 60 (by decide)) (by omega) (by decide) dX8_isCovered_46 ?_
        have b46 := w23 c1 (by omega)
        have B80 : ∀ (v80_0 : Int32), (v80_0 = 0 ∨ v80_0 = 1) → lseq (fX8_isCovered_B80 σ c1 k27 a27_2 v80_0) (fun q => fX8_isCovered_L27 σ c1 n27 (k27 + 1) q) = G → ∀ ls : Array Slot, lv_has ls 5 [(0, .ref r), (1, .int (nI c1)), (2, .int a27_2), (3, .int (nI k27))] → W p l e (headSpec wsX8_isCovered ({ frames := 0, cells := 0, slots := 0, locals := 0 } : Room)).room s m ([.ref r, .int (nI c1)] : List Value).toArray below meth c s.heap [] 0 0 (MQ below (xR (some (.int G))) ([.ref r, .int (nI c1)] : List Value).toArray s 0 0 (fun _ => False)) (F0 m 80 ls [.int v80_0]) := by
          intro v80_0 zv80_0 hG ls hl
          unfold fX8_isCovered_B80 at hG
          refine lv_istore (lv' := [(4, .int v80_0), (0, .ref r), (1, .int (nI c1)), (2, .int a27_2), (3, .int (nI k27))]) hx hb dX8_isCovered_80 hl (by decide) rfl (fun ls hl => ?_)
          refine lv_iload_n hx hb dX8_isCovered_82 rfl (lv_at hl 3 rfl) ?_
          refine lv_if_ne (tgt := 106) hx hb dX8_isCovered_83 (by decide) (fun c_83 => ?_) (fun c_83 => ?_)
          · skip
            rw [if_neg c_83] at hG
            refine lv_iconst (v := (nI 1)) hx hb dX8_isCovered_106 (by decide) ?_
            refine lv_goto (tgt := 111) hx hb dX8_isCovered_107 (by decide) ?_
            refine lv_istore_n (lv' := [(2, .int (nI 1)), (4, .int v80_0), (0, .ref r), (1, .int (nI c1)), (3, .int (nI k27))]) hx hb dX8_isCovered_111 rfl hl (by decide) rfl (fun ls hl => ?_)
            refine lv_iinc (v := (nI (k27 + 1))) (lv' := [(3, .int (nI (k27 + 1))), (2, .int (nI 1)), (4, .int v80_0), (0, .ref r), (1, .int (nI c1))]) hx hb dX8_isCovered_112 hl (k := 4) rfl (nI_succ k27).symm (by decide) rfl (fun ls hl => ?_)
            refine lv_goto (tgt := 27) hx hb dX8_isCovered_115 (by decide) ?_
            exact ih (k27 + 1) (nI 1) (by omega) (Or.inr rfl) hG ls (lv_sub hl [3, 4, 1, 0] rfl)
          · skip
            rw [if_pos c_83] at hG
            refine lv_aload_n hx hb dX8_isCovered_86 rfl (lv_at hl 1 rfl) ?_
            refine xget (C := RX8) (T := TX8) (N := 37) 12 hx hb hts hin8 hown I hR.1 rfl (by decide) (List.mem_of_getElem? (i := 7) rfl) rfl rfl dX8_isCovered_87 ?_
            refine lv_iload_n hx hb dX8_isCovered_90 rfl (lv_at hl 4 rfl) ?_
            refine xiald (i := k27) (n := 60) hx hb I (hR.2.2.1 12 60 (by decide)) (by omega) (by decide) dX8_isCovered_91 ?_
            have b91 := w12 k27 (by omega)
            refine lv_aload_n hx hb dX8_isCovered_92 rfl (lv_at hl 1 rfl) ?_
            refine xget (C := RX8) (T := TX8) (N := 37) 21 hx hb hts hin8 hown I hR.1 rfl (by decide) (List.mem_of_getElem? (i := 8) rfl) rfl rfl dX8_isCovered_93 ?_
            refine lv_iload_n hx hb dX8_isCovered_96 rfl (lv_at hl 2 rfl) ?_
            refine xiald (i := c1) (n := 60) hx hb I (hR.2.2.1 21 60 (by decide)) (by omega) (by decide) dX8_isCovered_97 ?_
            have b97 := w21 c1 (by omega)
            refine lv_icmp_ne (tgt := 110) hx hb dX8_isCovered_98 (by decide) (fun c_98 => ?_) (fun c_98 => ?_)
            · skip
              rw [if_neg c_98] at hG
              refine lv_iconst (v := (nI 0)) hx hb dX8_isCovered_110 (by decide) ?_
              refine lv_istore_n (lv' := [(2, .int (nI 0)), (4, .int v80_0), (0, .ref r), (1, .int (nI c1)), (3, .int (nI k27))]) hx hb dX8_isCovered_111 rfl hl (by decide) rfl (fun ls hl => ?_)
              refine lv_iinc (v := (nI (k27 + 1))) (lv' := [(3, .int (nI (k27 + 1))), (2, .int (nI 0)), (4, .int v80_0), (0, .ref r), (1, .int (nI c1))]) hx hb dX8_isCovered_112 hl (k := 4) rfl (nI_succ k27).symm (by decide) rfl (fun ls hl => ?_)
              refine lv_goto (tgt := 27) hx hb dX8_isCovered_115 (by decide) ?_
              exact ih (k27 + 1) (nI 0) (by omega) (Or.inl rfl) hG ls (lv_sub hl [3, 4, 1, 0] rfl)
            · skip
              rw [if_pos c_98] at hG
              refine lv_iload hx hb dX8_isCovered_101 (lv_at hl 0 rfl) ?_
              refine lv_if_eq (tgt := 110) hx hb dX8_isCovered_103 (by decide) (fun c_103 => ?_) (fun c_103 => ?_)
              · skip
                rw [if_pos c_103] at hG
                refine lv_iconst (v := (nI 0)) hx hb dX8_isCovered_110 (by decide) ?_
                refine lv_istore_n (lv' := [(2, .int (nI 0)), (4, .int v80_0), (0, .ref r), (1, .int (nI c1)), (3, .int (nI k27))]) hx hb dX8_isCovered_111 rfl hl (by decide) rfl (fun ls hl => ?_)
                refine lv_iinc (v := (nI (k27 + 1))) (lv' := [(3, .int (nI (k27 + 1))), (2, .int (nI 0)), (4, .int v80_0), (0, .ref r), (1, .int (nI c1))]) hx hb dX8_isCovered_112 hl (k := 4) rfl (nI_succ k27).symm (by decide) rfl (fun ls hl => ?_)
                refine lv_goto (tgt := 27) hx hb dX8_isCovered_115 (by decide) ?_
                exact ih (k27 + 1) (nI 0) (by omega) (Or.inl rfl) hG ls (lv_sub hl [3, 4, 1, 0] rfl)
              · skip
                rw [if_neg c_103] at hG
                refine lv_iconst (v := (nI 1)) hx hb dX8_isCovered_106 (by decide) ?_
                refine lv_goto (tgt := 111) hx hb dX8_isCovered_107 (by decide) ?_
                refine lv_istore_n (lv' := [(2, .int (nI 1)), (4, .int v80_0), (0, .ref r), (1, .int (nI c1)), (3, .int (nI k27))]) hx hb dX8_isCovered_111 rfl hl (by decide) rfl (fun ls hl => ?_)
                refine lv_iinc (v := (nI (k27 + 1))) (lv' := [(3, .int (nI (k27 + 1))), (2, .int (nI 1)), (4, .int v80_0), (0, .ref r), (1, .int (nI c1))]) hx hb dX8_isCovered_112 hl (k := 4) rfl (nI_succ k27).symm (by decide) rfl (fun ls hl => ?_)
                refine lv_goto (tgt := 27) hx hb dX8_isCovered_115 (by decide) ?_
                exact ih (k27 + 1) (nI 1) (by omega) (Or.inr rfl) hG ls (lv_sub hl [3, 4, 1, 0] rfl)
        refine lv_icmp_gt (tgt := 79) hx hb dX8_isCovered_47 (by decide) (fun c_47 => ?_) (fun c_47 => ?_)
        · skip
          rw [if_pos c_47] at hG
          refine lv_iconst (v := (nI 0)) hx hb dX8_isCovered_79 (by decide) ?_
          exact B80 (nI 0) (Or.inl rfl) hG ls (lv_sub hl [0, 1, 2, 3] rfl)
        · skip
          rw [if_neg c_47] at hG
          refine lv_aload_n hx hb dX8_isCovered_50 rfl (lv_at hl 0 rfl) ?_
          refine xget (C := RX8) (T := TX8) (N := 37) 14 hx hb hts hin8 hown I hR.1 rfl (by decide) (List.mem_of_getElem? (i := 6) rfl) rfl rfl dX8_isCovered_51 ?_
          refine lv_iload_n hx hb dX8_isCovered_54 rfl (lv_at hl 3 rfl) ?_
          refine xiald (i := k27) (n := 60) hx hb I (hR.2.1 14 60 (by decide)) (by omega) (by decide) dX8_isCovered_55 ?_
          refine lv_iconst (v := (-1)) hx hb dX8_isCovered_56 (by decide) ?_
          refine lv_icmp_eq (tgt := 75) hx hb dX8_isCovered_57 (by decide) (fun c_57 => ?_) (fun c_57 => ?_)
          · skip
            rw [if_pos c_57] at hG
            refine lv_iconst (v := (nI 1)) hx hb dX8_isCovered_75 (by decide) ?_
            refine lv_goto (tgt := 80) hx hb dX8_isCovered_76 (by decide) ?_
            exact B80 (nI 1) (Or.inr rfl) hG ls (lv_sub hl [0, 1, 2, 3] rfl)
          · skip
            rw [if_neg c_57] at hG
            refine lv_aload_n hx hb dX8_isCovered_60 rfl (lv_at hl 0 rfl) ?_
            refine xget (C := RX8) (T := TX8) (N := 37) 23 hx hb hts hin8 hown I hR.1 rfl (by decide) (List.mem_of_getElem? (i := 1) rfl) rfl rfl dX8_isCovered_61 ?_
            refine lv_iload_n hx hb dX8_isCovered_64 rfl (lv_at hl 1 rfl) ?_
            refine xiald (i := c1) (n := 60) hx hb I (hR.2.2.1 23 60 (by decide)) (by omega) (by decide) dX8_isCovered_65 ?_
            have b65 := w23 c1 (by omega)
            refine lv_aload_n hx hb dX8_isCovered_66 rfl (lv_at hl 0 rfl) ?_
            refine xget (C := RX8) (T := TX8) (N := 37) 14 hx hb hts hin8 hown I hR.1 rfl (by decide) (List.mem_of_getElem? (i := 6) rfl) rfl rfl dX8_isCovered_67 ?_
            refine lv_iload_n hx hb dX8_isCovered_70 rfl (lv_at hl 3 rfl) ?_
            refine xiald (i := k27) (n := 60) hx hb I (hR.2.1 14 60 (by decide)) (by omega) (by decide) dX8_isCovered_71 ?_
            refine lv_icmp_ge (tgt := 79) hx hb dX8_isCovered_72 (by decide) (fun c_72 => ?_) (fun c_72 => ?_)
            · skip
              rw [if_pos c_72] at hG
              refine lv_iconst (v := (nI 0)) hx hb dX8_isCovered_79 (by decide) ?_
              exact B80 (nI 0) (Or.inl rfl) hG ls (lv_sub hl [0, 1, 2, 3] rfl)
            · skip
              rw [if_neg c_72] at hG
              refine lv_iconst (v := (nI 1)) hx hb dX8_isCovered_75 (by decide) ?_
              refine lv_goto (tgt := 80) hx hb dX8_isCovered_76 (by decide) ?_
              exact B80 (nI 1) (Or.inr rfl) hG ls (lv_sub hl [0, 1, 2, 3] rfl)
    exact L27 (mN σ 11) 0 (nI 0) (by omega) (Or.inl rfl) hG ls (lv_sub hl [2, 3, 1, 0] rfl)
  · skip
    rw [if_neg c_13] at hG
    refine lv_aload_n hx hb dX8_isCovered_16 rfl (lv_at hl 0 rfl) ?_
    refine xget (C := RX8) (T := TX8) (N := 37) 28 hx hb hts hin8 hown I hR.1 rfl (by decide) (List.mem_of_getElem? (i := 3) rfl) rfl rfl dX8_isCovered_17 ?_
    refine lv_iload_n hx hb dX8_isCovered_20 rfl (lv_at hl 1 rfl) ?_
    refine xzald (i := c1) (n := 60) hx hb I (hR.2.2.2.2.1 28 60 (by decide)) (by omega) (by decide) dX8_isCovered_21 ?_
    exact xrzR hx hb hr hlocks dX8_isCovered_22 hG (by have hG2 : (mI σ 28 c1) = G := hG; rw [← hG2]; exact xnb (z28 c1))

def fX8_counts_B45 (σ : MT) (c1 : Nat) (v45_0 : Int32) : Int32 := (if (fX8_isCovered σ c1) = 0 then (nI 0) else v45_0)
def fX8_counts_B35 (σ : MT) (c1 : Nat) : Int32 := (fX8_counts_B45 σ c1 (mI σ 24 c1))
def fX8_counts (σ : MT) (c1 : Nat) : Int32 := (if (mI σ 27 c1) = 0 then (if ((nI 5000) * (mI σ 10 (mK σ 21 c1))) ≤ (mI σ 24 c1) then (fX8_counts_B45 σ c1 ((nI 5000) * (mI σ 10 (mK σ 21 c1)))) else (fX8_counts_B35 σ c1)) else (fX8_counts_B35 σ c1))
set_option maxHeartbeats 4000000 in
set_option maxRecDepth 100000 in
theorem mX8_counts (l : Launch) (lo : Nat) (D : va_G) (E : Nat → ClassId) (h : XW) (σ : MT) (th : Int32) (r : Nat) (ar : Nat → Nat) (hR : RM E σ th r ar h) (hW : MW σ) (c1 : Nat) (hc : c1 < mN σ 20) : Met l yX8_counts wsX8_counts ({ frames := 1, cells := 0, slots := 0, locals := 24 } : Room) (xP lo D E h [.ref r, .int (nI c1)]) (xR (some (.int (fX8_counts σ c1)))) 0 0 (fun _ => False) := by
  obtain ⟨G, hG⟩ : ∃ G, fX8_counts σ c1 = G := ⟨_, rfl⟩
  rw [hG]
  unfold fX8_counts at hG
  refine Met.ofW (cc := cX8_counts) (maxL := 4) (ret := (some .int)) (by decide) rfl ?_
  intro p e s m args below meth c s₁ B hml hv
  obtain ⟨rfl, I⟩ := hv
  have hx := B.exec
  have hb := B.bytes
  have hr := B.returns
  have hts := atoms_spec (ws := wsX8_counts) B.pre
  have hown : s.vm.findClass RX8 = some m.cls := findClass_of_methodNamed B.named
  have hlocks := B.notSynchronized
  have hl := lv_entry ([.ref r, .int (nI c1)] : List Value) (n := 4) (Nat.le_of_ble_eq_true rfl)
  rw [lg_entry_eq]
  generalize (lg_sl ([.ref r, .int (nI c1)] : List Value) ++ List.replicate (4 - (lg_sl ([.ref r, .int (nI c1)] : List Value)).length) Slot.unset).toArray = ls at hl ⊢
  have hl : lv_has ls 4 [(0, .ref r), (1, .int (nI c1))] := hl
  have hin8 : ∀ w ∈ u_ws RX8 TX8 37, w ∈ wsX8_counts := fun _ h => List.mem_cons_of_mem _ (List.mem_append_right _ (h))
  have hW0 := hW
  obtain ⟨⟨w1, w2, w3, w4, w5, w6, w7⟩, w9, w12, w21, w22, w23, w25, w31, z26, z27, z28, z36⟩ := id hW
  refine lv_sipush (v := (nI 5000)) hx hb dX8_counts_0 (by decide) ?_
  refine lv_aload_n hx hb dX8_counts_3 rfl (lv_at hl 0 rfl) ?_
  refine xget (C := RX8) (T := TX8) (N := 37) 10 hx hb hts hin8 hown I hR.1 rfl (by decide) (List.mem_of_getElem? (i := 1) rfl) rfl rfl dX8_counts_4 ?_
  refine lv_aload_n hx hb dX8_counts_7 rfl (lv_at hl 0 rfl) ?_
  refine xget (C := RX8) (T := TX8) (N := 37) 21 hx hb hts hin8 hown I hR.1 rfl (by decide) (List.mem_of_getElem? (i := 2) rfl) rfl rfl dX8_counts_8 ?_
  refine lv_iload_n hx hb dX8_counts_11 rfl (lv_at hl 1 rfl) ?_
  refine xiald (i := c1) (n := 60) hx hb I (hR.2.2.1 21 60 (by decide)) (by omega) (by decide) dX8_counts_12 ?_
  have b12 := w21 c1 (by omega)
  refine xiald (i := (mK σ 21 c1)) (n := 24) hx hb I (hR.2.1 10 24 (by decide)) (by omega) (by decide) dX8_counts_13 ?_
  refine lv_imul hx hb dX8_counts_14 ?_
  refine lv_istore_n (lv' := [(2, .int ((nI 5000) * (mI σ 10 (mK σ 21 c1)))), (0, .ref r), (1, .int (nI c1))]) hx hb dX8_counts_15 rfl hl (by decide) rfl (fun ls hl => ?_)
  refine lv_aload_n hx hb dX8_counts_16 rfl (lv_at hl 1 rfl) ?_
  refine xget (C := RX8) (T := TX8) (N := 37) 27 hx hb hts hin8 hown I hR.1 rfl (by decide) (List.mem_of_getElem? (i := 3) rfl) rfl rfl dX8_counts_17 ?_
  refine lv_iload_n hx hb dX8_counts_20 rfl (lv_at hl 2 rfl) ?_
  refine xzald (i := c1) (n := 60) hx hb I (hR.2.2.2.2.1 27 60 (by decide)) (by omega) (by decide) dX8_counts_21 ?_
  have B45 : ∀ (v45_0 : Int32), fX8_counts_B45 σ c1 v45_0 = G → ∀ ls : Array Slot, lv_has ls 4 [(0, .ref r), (1, .int (nI c1))] → W p l e (headSpec wsX8_counts ({ frames := 1, cells := 0, slots := 0, locals := 24 } : Room)).room s m ([.ref r, .int (nI c1)] : List Value).toArray below meth c s.heap [] 0 0 (MQ below (xR (some (.int G))) ([.ref r, .int (nI c1)] : List Value).toArray s 0 0 (fun _ => False)) (F0 m 45 ls [.int v45_0]) := by
    intro v45_0 hG ls hl
    unfold fX8_counts_B45 at hG
    refine lv_istore_n (lv' := [(3, .int v45_0), (0, .ref r), (1, .int (nI c1))]) hx hb dX8_counts_45 rfl hl (by decide) rfl (fun ls hl => ?_)
    refine lv_aload_n hx hb dX8_counts_46 rfl (lv_at hl 1 rfl) ?_
    refine lv_iload_n hx hb dX8_counts_47 rfl (lv_at hl 2 rfl) ?_
    refine xcvR (As := [.int (nI c1)]) (rest := []) (v := some (.int (fX8_isCovered σ c1))) ⟨hx, hb, hml, hown, hts⟩ (mX8_isCovered l lo D E h σ th r ar hR hW c1  (by first | assumption | omega)) (cwV 1 hts gX8_counts_X8_isCovered rfl rfl rfl (by decide +kernel) ⟨Nat.le_of_ble_eq_true rfl, Nat.le_of_ble_eq_true rfl⟩) I hR.1 rfl rfl hl.1 rfl (Nat.le_of_ble_eq_true rfl) dX8_counts_48 ⟨Nat.le_of_ble_eq_true rfl, Nat.le_of_ble_eq_true rfl⟩ ?_
    refine W.eq (g2 := F0 m 51 ls [.int (fX8_isCovered σ c1)]) rfl ?_
    refine lv_if_eq (tgt := 58) hx hb dX8_counts_51 (by decide) (fun c_51 => ?_) (fun c_51 => ?_)
    · skip
      rw [if_pos c_51] at hG
      refine lv_iconst (v := (nI 0)) hx hb dX8_counts_58 (by decide) ?_
      exact xriR hx hb hr hlocks dX8_counts_59 hG
    · skip
      rw [if_neg c_51] at hG
      refine lv_iload_n hx hb dX8_counts_54 rfl (lv_at hl 0 rfl) ?_
      refine lv_goto (tgt := 59) hx hb dX8_counts_55 (by decide) ?_
      exact xriR hx hb hr hlocks dX8_counts_59 hG
  have B35 : fX8_counts_B35 σ c1 = G → ∀ ls : Array Slot, lv_has ls 4 [(0, .ref r), (1, .int (nI c1))] → W p l e (headSpec wsX8_counts ({ frames := 1, cells := 0, slots := 0, locals := 24 } : Room)).room s m ([.ref r, .int (nI c1)] : List Value).toArray below meth c s.heap [] 0 0 (MQ below (xR (some (.int G))) ([.ref r, .int (nI c1)] : List Value).toArray s 0 0 (fun _ => False)) (F0 m 35 ls []) := by
    intro hG ls hl
    unfold fX8_counts_B35 at hG
    refine lv_aload_n hx hb dX8_counts_35 rfl (lv_at hl 0 rfl) ?_
    refine xget (C := RX8) (T := TX8) (N := 37) 24 hx hb hts hin8 hown I hR.1 rfl (by decide) (List.mem_of_getElem? (i := 4) rfl) rfl rfl dX8_counts_36 ?_
    refine lv_iload_n hx hb dX8_counts_39 rfl (lv_at hl 1 rfl) ?_
    refine xiald (i := c1) (n := 60) hx hb I (hR.2.1 24 60 (by decide)) (by omega) (by decide) dX8_counts_40 ?_
    refine lv_goto (tgt := 45) hx hb dX8_counts_41 (by decide) ?_
    exact B45 (mI σ 24 c1) hG ls (lv_sub hl [0, 1] rfl)
  refine lv_if_ne (tgt := 35) hx hb dX8_counts_22 (by decide) (fun c_22 => ?_) (fun c_22 => ?_)
  · skip
    rw [if_neg c_22] at hG
    exact B35 hG ls (lv_sub hl [1, 2] rfl)
  · skip
    rw [if_pos c_22] at hG
    refine lv_aload_n hx hb dX8_counts_25 rfl (lv_at hl 1 rfl) ?_
    refine xget (C := RX8) (T := TX8) (N := 37) 24 hx hb hts hin8 hown I hR.1 rfl (by decide) (List.mem_of_getElem? (i := 4) rfl) rfl rfl dX8_counts_26 ?_
    refine lv_iload_n hx hb dX8_counts_29 rfl (lv_at hl 2 rfl) ?_
    refine xiald (i := c1) (n := 60) hx hb I (hR.2.1 24 60 (by decide)) (by omega) (by decide) dX8_counts_30 ?_
    refine lv_iload_n hx hb dX8_counts_31 rfl (lv_at hl 0 rfl) ?_
    refine lv_icmp_ge (tgt := 44) hx hb dX8_counts_32 (by decide) (fun c_32 => ?_) (fun c_32 => ?_)
    · skip
      rw [if_pos c_32] at hG
      refine lv_iload_n hx hb dX8_counts_44 rfl (lv_at hl 0 rfl) ?_
      exact B45 ((nI 5000) * (mI σ 10 (mK σ 21 c1))) hG ls (lv_sub hl [1, 2] rfl)
    · skip
      rw [if_neg c_32] at hG
      exact B35 hG ls (lv_sub hl [1, 2] rfl)

def fX8_ruleOf_S5 (σ : MT) (k1 : Nat) (y1 : Nat) (k5 : Nat) (a5_3 : Int32) : (Int32) := (if (mI σ 15 (20 * k1 + k5)) = (-1) then a5_3 else (nI (20 * k1 + k5)))
def fX8_ruleOf_L5 (σ : MT) (k1 : Nat) (y1 : Nat) : Nat → Nat → Int32 → Int32
  | 0, k5, a5_3 => a5_3
  | n5 + 1, k5, a5_3 => lseq (fX8_ruleOf_S5 σ k1 y1 k5 a5_3) (fun q => fX8_ruleOf_L5 σ k1 y1 n5 (k5 + 1) q)
def fX8_ruleOf (σ : MT) (k1 : Nat) (y1 : Nat) : Int32 := (fX8_ruleOf_L5 σ k1 y1 (y1 + 1) 0 (-1))
set_option maxHeartbeats 4000000 in
set_option maxRecDepth 100000 in
theorem mX8_ruleOf (l : Launch) (lo : Nat) (D : va_G) (E : Nat → ClassId) (h : XW) (σ : MT) (th : Int32) (r : Nat) (ar : Nat → Nat) (hR : RM E σ th r ar h) (hW : MW σ) (k1 : Nat) (y1 : Nat) (hk : k1 < 4) (hy : y1 < 20) : Met l yX8_ruleOf wsX8_ruleOf ({ frames := 0, cells := 0, slots := 0, locals := 0 } : Room) (xP lo D E h [.ref r, .int (nI k1), .int (nI y1)]) (xR (some (.int (fX8_ruleOf σ k1 y1)))) 0 0 (fun _ => False) := by
  obtain ⟨G, hG⟩ : ∃ G, fX8_ruleOf σ k1 y1 = G := ⟨_, rfl⟩
  rw [hG]
  unfold fX8_ruleOf at hG
  refine Met.ofW (cc := cX8_ruleOf) (maxL := 5) (ret := (some .int)) (by decide) rfl ?_
  intro p e s m args below meth c s₁ B hml hv
  obtain ⟨rfl, I⟩ := hv
  have hx := B.exec
  have hb := B.bytes
  have hr := B.returns
  have hts := atoms_spec (ws := wsX8_ruleOf) B.pre
  have hown : s.vm.findClass RX8 = some m.cls := findClass_of_methodNamed B.named
  have hlocks := B.notSynchronized
  have hl := lv_entry ([.ref r, .int (nI k1), .int (nI y1)] : List Value) (n := 5) (Nat.le_of_ble_eq_true rfl)
  rw [lg_entry_eq]
  generalize (lg_sl ([.ref r, .int (nI k1), .int (nI y1)] : List Value) ++ List.replicate (5 - (lg_sl ([.ref r, .int (nI k1), .int (nI y1)] : List Value)).length) Slot.unset).toArray = ls at hl ⊢
  have hl : lv_has ls 5 [(0, .ref r), (1, .int (nI k1)), (2, .int (nI y1))] := hl
  have hin8 : ∀ w ∈ u_ws RX8 TX8 37, w ∈ wsX8_ruleOf := fun _ h => List.mem_cons_of_mem _ (List.mem_append_right _ (h))
  have hW0 := hW
  obtain ⟨⟨w1, w2, w3, w4, w5, w6, w7⟩, w9, w12, w21, w22, w23, w25, w31, z26, z27, z28, z36⟩ := id hW
  refine lv_iconst (v := (-1)) hx hb dX8_ruleOf_0 (by decide) ?_
  refine lv_istore_n (lv' := [(3, .int (-1)), (0, .ref r), (1, .int (nI k1)), (2, .int (nI y1))]) hx hb dX8_ruleOf_1 rfl hl (by decide) rfl (fun ls hl => ?_)
  refine lv_iconst (v := (nI 0)) hx hb dX8_ruleOf_2 (by decide) ?_
  refine lv_istore (lv' := [(4, .int (nI 0)), (3, .int (-1)), (0, .ref r), (1, .int (nI k1)), (2, .int (nI y1))]) hx hb dX8_ruleOf_3 hl (by decide) rfl (fun ls hl => ?_)
  have L5 : ∀ (n5 : Nat) (k5 : Nat) (a5_3 : Int32), k5 + n5 = (y1 + 1) → fX8_ruleOf_L5 σ k1 y1 n5 k5 a5_3 = G → ∀ ls : Array Slot, lv_has ls 5 [(0, .ref r), (1, .int (nI k1)), (2, .int (nI y1)), (3, .int a5_3), (4, .int (nI k5))] → W p l e (headSpec wsX8_ruleOf ({ frames := 0, cells := 0, slots := 0, locals := 0 } : Room)).room s m ([.ref r, .int (nI k1), .int (nI y1)] : List Value).toArray below meth c s.heap [] 0 0 (MQ below (xR (some (.int G))) ([.ref r, .int (nI k1), .int (nI y1)] : List Value).toArray s 0 0 (fun _ => False)) (F0 m 5 ls []) := by
    intro n5
    induction n5 with
    | zero =>
      intro k5 a5_3 hkn hG ls hl
      have hkN : k5 = (y1 + 1) := by omega
      have hG : a5_3 = G := hG
      refine lv_iload hx hb dX8_ruleOf_5 (lv_at hl 4 rfl) ?_
      refine lv_iload_n hx hb dX8_ruleOf_7 rfl (lv_at hl 2 rfl) ?_
      refine lv_icmp_gt (tgt := 45) hx hb dX8_ruleOf_8 (by decide) (fun _ => ?_) (fun q => absurd (nI_lt (by omega) (by omega)) q)
      refine lv_iload_n hx hb dX8_ruleOf_45 rfl (lv_at hl 3 rfl) ?_
      exact xriR hx hb hr hlocks dX8_ruleOf_46 hG
    | succ n5 ih =>
      intro k5 a5_3 hkn hG ls hl
      have hk : k5 < (y1 + 1) := by omega
      have hG : lseq ((if (mI σ 15 (20 * k1 + k5)) = (-1) then a5_3 else (nI (20 * k1 + k5)))) (fun q => fX8_ruleOf_L5 σ k1 y1 n5 (k5 + 1) q) = G := hG
      refine lv_iload hx hb dX8_ruleOf_5 (lv_at hl 4 rfl) ?_
      refine lv_iload_n hx hb dX8_ruleOf_7 rfl (lv_at hl 2 rfl) ?_
      refine lv_icmp_gt (tgt := 45) hx hb dX8_ruleOf_8 (by decide) (fun q => absurd q (nI_nlt (by omega) (by omega))) (fun _ => ?_)
      refine lv_aload_n hx hb dX8_ruleOf_11 rfl (lv_at hl 0 rfl) ?_
      refine xget (C := RX8) (T := TX8) (N := 37) 15 hx hb hts hin8 hown I hR.1 rfl (by decide) (List.mem_of_getElem? (i := 1) rfl) rfl rfl dX8_ruleOf_12 ?_
      refine lv_bipush (v := (nI 20)) hx hb dX8_ruleOf_15 (by decide) ?_
      refine lv_iload_n hx hb dX8_ruleOf_17 rfl (lv_at hl 1 rfl) ?_
      refine lv_imul hx hb dX8_ruleOf_18 ?_
      refine xtop (y := .int (nI (20 * k1))) (congrArg Value.int (pk_mul _ _)) ?_
      refine lv_iload hx hb dX8_ruleOf_19 (lv_at hl 4 rfl) ?_
      refine lv_iadd hx hb dX8_ruleOf_21 ?_
      refine xtop (y := .int (nI (20 * k1 + k5))) (congrArg Value.int (nI_add _ _)) ?_
      refine xiald (i := (20 * k1 + k5)) (n := 80) hx hb I (hR.2.1 15 80 (by decide)) (by omega) (by decide) dX8_ruleOf_22 ?_
      refine lv_iconst (v := (-1)) hx hb dX8_ruleOf_23 (by decide) ?_
      refine lv_icmp_eq (tgt := 37) hx hb dX8_ruleOf_24 (by decide) (fun c_24 => ?_) (fun c_24 => ?_)
      · skip
        rw [if_pos c_24] at hG
        refine lv_iload_n hx hb dX8_ruleOf_37 rfl (lv_at hl 3 rfl) ?_
        refine lv_istore_n (lv' := [(3, .int a5_3), (0, .ref r), (1, .int (nI k1)), (2, .int (nI y1)), (4, .int (nI k5))]) hx hb dX8_ruleOf_38 rfl hl (by decide) rfl (fun ls hl => ?_)
        refine lv_iinc (v := (nI (k5 + 1))) (lv' := [(4, .int (nI (k5 + 1))), (3, .int a5_3), (0, .ref r), (1, .int (nI k1)), (2, .int (nI y1))]) hx hb dX8_ruleOf_39 hl (k := 4) rfl (nI_succ k5).symm (by decide) rfl (fun ls hl => ?_)
        refine lv_goto (tgt := 5) hx hb dX8_ruleOf_42 (by decide) ?_
        exact ih (k5 + 1) a5_3 (by omega) hG ls (lv_sub hl [2, 3, 4, 1, 0] rfl)
      · skip
        rw [if_neg c_24] at hG
        refine lv_bipush (v := (nI 20)) hx hb dX8_ruleOf_27 (by decide) ?_
        refine lv_iload_n hx hb dX8_ruleOf_29 rfl (lv_at hl 1 rfl) ?_
        refine lv_imul hx hb dX8_ruleOf_30 ?_
        refine xtop (y := .int (nI (20 * k1))) (congrArg Value.int (pk_mul _ _)) ?_
        refine lv_iload hx hb dX8_ruleOf_31 (lv_at hl 4 rfl) ?_
        refine lv_iadd hx hb dX8_ruleOf_33 ?_
        refine xtop (y := .int (nI (20 * k1 + k5))) (congrArg Value.int (nI_add _ _)) ?_
        refine lv_goto (tgt := 38) hx hb dX8_ruleOf_34 (by decide) ?_
        refine lv_istore_n (lv' := [(3, .int (nI (20 * k1 + k5))), (0, .ref r), (1, .int (nI k1)), (2, .int (nI y1)), (4, .int (nI k5))]) hx hb dX8_ruleOf_38 rfl hl (by decide) rfl (fun ls hl => ?_)
        refine lv_iinc (v := (nI (k5 + 1))) (lv' := [(4, .int (nI (k5 + 1))), (3, .int (nI (20 * k1 + k5))), (0, .ref r), (1, .int (nI k1)), (2, .int (nI y1))]) hx hb dX8_ruleOf_39 hl (k := 4) rfl (nI_succ k5).symm (by decide) rfl (fun ls hl => ?_)
        refine lv_goto (tgt := 5) hx hb dX8_ruleOf_42 (by decide) ?_
        exact ih (k5 + 1) (nI (20 * k1 + k5)) (by omega) hG ls (lv_sub hl [2, 3, 4, 1, 0] rfl)
  exact L5 (y1 + 1) 0 (-1) (by omega) hG ls (lv_sub hl [2, 3, 4, 1, 0] rfl)

def fX8_isFirst_S4 (σ : MT) (c1 : Nat) (k4 : Nat) (a4_2 : Int32) : (Int32) := (if a4_2 = 0 then (nI 0) else (if (nI (mK σ 25 k4)) = (nI (mK σ 25 c1)) then (if (nI (mK σ 21 k4)) = (nI (mK σ 21 c1)) then (if (nI (mK σ 22 k4)) = (nI (mK σ 22 c1)) then (nI 0) else (nI 1)) else (nI 1)) else (nI 1)))
def fX8_isFirst_L4 (σ : MT) (c1 : Nat) : Nat → Nat → Int32 → Int32
  | 0, k4, a4_2 => a4_2
  | n4 + 1, k4, a4_2 => lseq (fX8_isFirst_S4 σ c1 k4 a4_2) (fun q => fX8_isFirst_L4 σ c1 n4 (k4 + 1) q)
def fX8_isFirst (σ : MT) (c1 : Nat) : Int32 := (fX8_isFirst_L4 σ c1 c1 0 (nI 1))
set_option maxHeartbeats 4000000 in
set_option maxRecDepth 100000 in
theorem mX8_isFirst (l : Launch) (lo : Nat) (D : va_G) (E : Nat → ClassId) (h : XW) (σ : MT) (th : Int32) (r : Nat) (ar : Nat → Nat) (hR : RM E σ th r ar h) (hW : MW σ) (c1 : Nat) (hc : c1 < mN σ 20) : Met l yX8_isFirst wsX8_isFirst ({ frames := 0, cells := 0, slots := 0, locals := 0 } : Room) (xP lo D E h [.ref r, .int (nI c1)]) (xR (some (.int (fX8_isFirst σ c1)))) 0 0 (fun _ => False) := by
  obtain ⟨G, hG⟩ : ∃ G, fX8_isFirst σ c1 = G := ⟨_, rfl⟩
  rw [hG]
  unfold fX8_isFirst at hG
  refine Met.ofW (cc := cX8_isFirst) (maxL := 4) (ret := (some .boolean)) (by decide) rfl ?_
  intro p e s m args below meth c s₁ B hml hv
  obtain ⟨rfl, I⟩ := hv
  have hx := B.exec
  have hb := B.bytes
  have hr := B.returns
  have hts := atoms_spec (ws := wsX8_isFirst) B.pre
  have hown : s.vm.findClass RX8 = some m.cls := findClass_of_methodNamed B.named
  have hlocks := B.notSynchronized
  have hl := lv_entry ([.ref r, .int (nI c1)] : List Value) (n := 4) (Nat.le_of_ble_eq_true rfl)
  rw [lg_entry_eq]
  generalize (lg_sl ([.ref r, .int (nI c1)] : List Value) ++ List.replicate (4 - (lg_sl ([.ref r, .int (nI c1)] : List Value)).length) Slot.unset).toArray = ls at hl ⊢
  have hl : lv_has ls 4 [(0, .ref r), (1, .int (nI c1))] := hl
  have hin8 : ∀ w ∈ u_ws RX8 TX8 37, w ∈ wsX8_isFirst := fun _ h => List.mem_cons_of_mem _ (List.mem_append_right _ (h))
  have hW0 := hW
  obtain ⟨⟨w1, w2, w3, w4, w5, w6, w7⟩, w9, w12, w21, w22, w23, w25, w31, z26, z27, z28, z36⟩ := id hW
  refine lv_iconst (v := (nI 1)) hx hb dX8_isFirst_0 (by decide) ?_
  refine lv_istore_n (lv' := [(2, .int (nI 1)), (0, .ref r), (1, .int (nI c1))]) hx hb dX8_isFirst_1 rfl hl (by decide) rfl (fun ls hl => ?_)
  refine lv_iconst (v := (nI 0)) hx hb dX8_isFirst_2 (by decide) ?_
  refine lv_istore_n (lv' := [(3, .int (nI 0)), (2, .int (nI 1)), (0, .ref r), (1, .int (nI c1))]) hx hb dX8_isFirst_3 rfl hl (by decide) rfl (fun ls hl => ?_)
  have L4 : ∀ (n4 : Nat) (k4 : Nat) (a4_2 : Int32), k4 + n4 = c1 → (a4_2 = 0 ∨ a4_2 = 1) → fX8_isFirst_L4 σ c1 n4 k4 a4_2 = G → ∀ ls : Array Slot, lv_has ls 4 [(0, .ref r), (1, .int (nI c1)), (2, .int a4_2), (3, .int (nI k4))] → W p l e (headSpec wsX8_isFirst ({ frames := 0, cells := 0, slots := 0, locals := 0 } : Room)).room s m ([.ref r, .int (nI c1)] : List Value).toArray below meth c s.heap [] 0 0 (MQ below (xR (some (.int G))) ([.ref r, .int (nI c1)] : List Value).toArray s 0 0 (fun _ => False)) (F0 m 4 ls []) := by
    intro n4
    induction n4 with
    | zero =>
      intro k4 a4_2 hkn za4_2 hG ls hl
      have hkN : k4 = c1 := by omega
      have hG : a4_2 = G := hG
      refine lv_iload_n hx hb dX8_isFirst_4 rfl (lv_at hl 3 rfl) ?_
      refine lv_iload_n hx hb dX8_isFirst_5 rfl (lv_at hl 1 rfl) ?_
      refine lv_icmp_ge (tgt := 70) hx hb dX8_isFirst_6 (by decide) (fun _ => ?_) (fun q => absurd (nI_le (Nat.le_of_eq hkN.symm) (by omega)) q)
      refine lv_iload_n hx hb dX8_isFirst_70 rfl (lv_at hl 2 rfl) ?_
      exact xrzR hx hb hr hlocks dX8_isFirst_71 hG (by have hG2 : a4_2 = G := hG; rw [← hG2]; exact xnb za4_2)
    | succ n4 ih =>
      intro k4 a4_2 hkn za4_2 hG ls hl
      have hk : k4 < c1 := by omega
      have hG : lseq ((if a4_2 = 0 then (nI 0) else (if (nI (mK σ 25 k4)) = (nI (mK σ 25 c1)) then (if (nI (mK σ 21 k4)) = (nI (mK σ 21 c1)) then (if (nI (mK σ 22 k4)) = (nI (mK σ 22 c1)) then (nI 0) else (nI 1)) else (nI 1)) else (nI 1)))) (fun q => fX8_isFirst_L4 σ c1 n4 (k4 + 1) q) = G := hG
      refine lv_iload_n hx hb dX8_isFirst_4 rfl (lv_at hl 3 rfl) ?_
      refine lv_iload_n hx hb dX8_isFirst_5 rfl (lv_at hl 1 rfl) ?_
      refine lv_icmp_ge (tgt := 70) hx hb dX8_isFirst_6 (by decide) (fun q => absurd q (nI_ge hk (by omega))) (fun _ => ?_)
      refine lv_iload_n hx hb dX8_isFirst_9 rfl (lv_at hl 2 rfl) ?_
      refine lv_if_eq (tgt := 62) hx hb dX8_isFirst_10 (by decide) (fun c_10 => ?_) (fun c_10 => ?_)
      · skip
        rw [if_pos c_10] at hG
        refine lv_iconst (v := (nI 0)) hx hb dX8_isFirst_62 (by decide) ?_
        refine lv_istore_n (lv' := [(2, .int (nI 0)), (0, .ref r), (1, .int (nI c1)), (3, .int (nI k4))]) hx hb dX8_isFirst_63 rfl hl (by decide) rfl (fun ls hl => ?_)
        refine lv_iinc (v := (nI (k4 + 1))) (lv' := [(3, .int (nI (k4 + 1))), (2, .int (nI 0)), (0, .ref r), (1, .int (nI c1))]) hx hb dX8_isFirst_64 hl (k := 3) rfl (nI_succ k4).symm (by decide) rfl (fun ls hl => ?_)
        refine lv_goto (tgt := 4) hx hb dX8_isFirst_67 (by decide) ?_
        exact ih (k4 + 1) (nI 0) (by omega) (Or.inl rfl) hG ls (lv_sub hl [2, 3, 1, 0] rfl)
      · skip
        rw [if_neg c_10] at hG
        refine lv_aload_n hx hb dX8_isFirst_13 rfl (lv_at hl 0 rfl) ?_
        refine xget (C := RX8) (T := TX8) (N := 37) 25 hx hb hts hin8 hown I hR.1 rfl (by decide) (List.mem_of_getElem? (i := 1) rfl) rfl rfl dX8_isFirst_14 ?_
        refine lv_iload_n hx hb dX8_isFirst_17 rfl (lv_at hl 3 rfl) ?_
        refine xiald (i := k4) (n := 60) hx hb I (hR.2.2.1 25 60 (by decide)) (by omega) (by decide) dX8_isFirst_18 ?_
        have b18 := w25 k4 (by omega)
        refine lv_aload_n hx hb dX8_isFirst_19 rfl (lv_at hl 0 rfl) ?_
        refine xget (C := RX8) (T := TX8) (N := 37) 25 hx hb hts hin8 hown I hR.1 rfl (by decide) (List.mem_of_getElem? (i := 1) rfl) rfl rfl dX8_isFirst_20 ?_
        refine lv_iload_n hx hb dX8_isFirst_23 rfl (lv_at hl 1 rfl) ?_
        refine xiald (i := c1) (n := 60) hx hb I (hR.2.2.1 25 60 (by decide)) (by omega) (by decide) dX8_isFirst_24 ?_
        have b24 := w25 c1 (by omega)
        refine lv_icmp_ne (tgt := 58) hx hb dX8_isFirst_25 (by decide) (fun c_25 => ?_) (fun c_25 => ?_)
        · skip
          rw [if_neg c_25] at hG
          refine lv_iconst (v := (nI 1)) hx hb dX8_isFirst_58 (by decide) ?_
          refine lv_goto (tgt := 63) hx hb dX8_isFirst_59 (by decide) ?_
          refine lv_istore_n (lv' := [(2, .int (nI 1)), (0, .ref r), (1, .int (nI c1)), (3, .int (nI k4))]) hx hb dX8_isFirst_63 rfl hl (by decide) rfl (fun ls hl => ?_)
          refine lv_iinc (v := (nI (k4 + 1))) (lv' := [(3, .int (nI (k4 + 1))), (2, .int (nI 1)), (0, .ref r), (1, .int (nI c1))]) hx hb dX8_isFirst_64 hl (k := 3) rfl (nI_succ k4).symm (by decide) rfl (fun ls hl => ?_)
          refine lv_goto (tgt := 4) hx hb dX8_isFirst_67 (by decide) ?_
          exact ih (k4 + 1) (nI 1) (by omega) (Or.inr rfl) hG ls (lv_sub hl [2, 3, 1, 0] rfl)
        · skip
          rw [if_pos c_25] at hG
          refine lv_aload_n hx hb dX8_isFirst_28 rfl (lv_at hl 0 rfl) ?_
          refine xget (C := RX8) (T := TX8) (N := 37) 21 hx hb hts hin8 hown I hR.1 rfl (by decide) (List.mem_of_getElem? (i := 2) rfl) rfl rfl dX8_isFirst_29 ?_
          refine lv_iload_n hx hb dX8_isFirst_32 rfl (lv_at hl 3 rfl) ?_
          refine xiald (i := k4) (n := 60) hx hb I (hR.2.2.1 21 60 (by decide)) (by omega) (by decide) dX8_isFirst_33 ?_
          have b33 := w21 k4 (by omega)
          refine lv_aload_n hx hb dX8_isFirst_34 rfl (lv_at hl 0 rfl) ?_
          refine xget (C := RX8) (T := TX8) (N := 37) 21 hx hb hts hin8 hown I hR.1 rfl (by decide) (List.mem_of_getElem? (i := 2) rfl) rfl rfl dX8_isFirst_35 ?_
          refine lv_iload_n hx hb dX8_isFirst_38 rfl (lv_at hl 1 rfl) ?_
          refine xiald (i := c1) (n := 60) hx hb I (hR.2.2.1 21 60 (by decide)) (by omega) (by decide) dX8_isFirst_39 ?_
          have b39 := w21 c1 (by omega)
          refine lv_icmp_ne (tgt := 58) hx hb dX8_isFirst_40 (by decide) (fun c_40 => ?_) (fun c_40 => ?_)
          · skip
            rw [if_neg c_40] at hG
            refine lv_iconst (v := (nI 1)) hx hb dX8_isFirst_58 (by decide) ?_
            refine lv_goto (tgt := 63) hx hb dX8_isFirst_59 (by decide) ?_
            refine lv_istore_n (lv' := [(2, .int (nI 1)), (0, .ref r), (1, .int (nI c1)), (3, .int (nI k4))]) hx hb dX8_isFirst_63 rfl hl (by decide) rfl (fun ls hl => ?_)
            refine lv_iinc (v := (nI (k4 + 1))) (lv' := [(3, .int (nI (k4 + 1))), (2, .int (nI 1)), (0, .ref r), (1, .int (nI c1))]) hx hb dX8_isFirst_64 hl (k := 3) rfl (nI_succ k4).symm (by decide) rfl (fun ls hl => ?_)
            refine lv_goto (tgt := 4) hx hb dX8_isFirst_67 (by decide) ?_
            exact ih (k4 + 1) (nI 1) (by omega) (Or.inr rfl) hG ls (lv_sub hl [2, 3, 1, 0] rfl)
          · skip
            rw [if_pos c_40] at hG
            refine lv_aload_n hx hb dX8_isFirst_43 rfl (lv_at hl 0 rfl) ?_
            refine xget (C := RX8) (T := TX8) (N := 37) 22 hx hb hts hin8 hown I hR.1 rfl (by decide) (List.mem_of_getElem? (i := 3) rfl) rfl rfl dX8_isFirst_44 ?_
            refine lv_iload_n hx hb dX8_isFirst_47 rfl (lv_at hl 3 rfl) ?_
            refine xiald (i := k4) (n := 60) hx hb I (hR.2.2.1 22 60 (by decide)) (by omega) (by decide) dX8_isFirst_48 ?_
            have b48 := w22 k4 (by omega)
            refine lv_aload_n hx hb dX8_isFirst_49 rfl (lv_at hl 0 rfl) ?_
            refine xget (C := RX8) (T := TX8) (N := 37) 22 hx hb hts hin8 hown I hR.1 rfl (by decide) (List.mem_of_getElem? (i := 3) rfl) rfl rfl dX8_isFirst_50 ?_
            refine lv_iload_n hx hb dX8_isFirst_53 rfl (lv_at hl 1 rfl) ?_
            refine xiald (i := c1) (n := 60) hx hb I (hR.2.2.1 22 60 (by decide)) (by omega) (by decide) dX8_isFirst_54 ?_
            have b54 := w22 c1 (by omega)
            refine lv_icmp_eq (tgt := 62) hx hb dX8_isFirst_55 (by decide) (fun c_55 => ?_) (fun c_55 => ?_)
            · skip
              rw [if_pos c_55] at hG
              refine lv_iconst (v := (nI 0)) hx hb dX8_isFirst_62 (by decide) ?_
              refine lv_istore_n (lv' := [(2, .int (nI 0)), (0, .ref r), (1, .int (nI c1)), (3, .int (nI k4))]) hx hb dX8_isFirst_63 rfl hl (by decide) rfl (fun ls hl => ?_)
              refine lv_iinc (v := (nI (k4 + 1))) (lv' := [(3, .int (nI (k4 + 1))), (2, .int (nI 0)), (0, .ref r), (1, .int (nI c1))]) hx hb dX8_isFirst_64 hl (k := 3) rfl (nI_succ k4).symm (by decide) rfl (fun ls hl => ?_)
              refine lv_goto (tgt := 4) hx hb dX8_isFirst_67 (by decide) ?_
              exact ih (k4 + 1) (nI 0) (by omega) (Or.inl rfl) hG ls (lv_sub hl [2, 3, 1, 0] rfl)
            · skip
              rw [if_neg c_55] at hG
              refine lv_iconst (v := (nI 1)) hx hb dX8_isFirst_58 (by decide) ?_
              refine lv_goto (tgt := 63) hx hb dX8_isFirst_59 (by decide) ?_
              refine lv_istore_n (lv' := [(2, .int (nI 1)), (0, .ref r), (1, .int (nI c1)), (3, .int (nI k4))]) hx hb dX8_isFirst_63 rfl hl (by decide) rfl (fun ls hl => ?_)
              refine lv_iinc (v := (nI (k4 + 1))) (lv' := [(3, .int (nI (k4 + 1))), (2, .int (nI 1)), (0, .ref r), (1, .int (nI c1))]) hx hb dX8_isFirst_64 hl (k := 3) rfl (nI_succ k4).symm (by decide) rfl (fun ls hl => ?_)
              refine lv_goto (tgt := 4) hx hb dX8_isFirst_67 (by decide) ?_
              exact ih (k4 + 1) (nI 1) (by omega) (Or.inr rfl) hG ls (lv_sub hl [2, 3, 1, 0] rfl)
  exact L4 c1 0 (nI 1) (by omega) (Or.inr rfl) hG ls (lv_sub hl [2, 3, 1, 0] rfl)

def fX8_hasReleased_S4 (σ : MT) (y1 : Nat) (k4 : Nat) (a4_2 : Int32) : (Int32) := (if a4_2 = 0 then (if (mI σ 6 (20 * k4 + y1)) = (nI 1) then (nI 1) else (nI 0)) else (nI 1))
def fX8_hasReleased_L4 (σ : MT) (y1 : Nat) : Nat → Nat → Int32 → Int32
  | 0, k4, a4_2 => a4_2
  | n4 + 1, k4, a4_2 => lseq (fX8_hasReleased_S4 σ y1 k4 a4_2) (fun q => fX8_hasReleased_L4 σ y1 n4 (k4 + 1) q)
def fX8_hasReleased (σ : MT) (y1 : Nat) : Int32 := (fX8_hasReleased_L4 σ y1 (mN σ 2) 0 (nI 0))
set_option maxHeartbeats 4000000 in
set_option maxRecDepth 100000 in
theorem mX8_hasReleased (l : Launch) (lo : Nat) (D : va_G) (E : Nat → ClassId) (h : XW) (σ : MT) (th : Int32) (r : Nat) (ar : Nat → Nat) (hR : RM E σ th r ar h) (hW : MW σ) (y1 : Nat) (hy : y1 < 20) : Met l yX8_hasReleased wsX8_hasReleased ({ frames := 0, cells := 0, slots := 0, locals := 0 } : Room) (xP lo D E h [.ref r, .int (nI y1)]) (xR (some (.int (fX8_hasReleased σ y1)))) 0 0 (fun _ => False) := by
  obtain ⟨G, hG⟩ : ∃ G, fX8_hasReleased σ y1 = G := ⟨_, rfl⟩
  rw [hG]
  unfold fX8_hasReleased at hG
  refine Met.ofW (cc := cX8_hasReleased) (maxL := 4) (ret := (some .boolean)) (by decide) rfl ?_
  intro p e s m args below meth c s₁ B hml hv
  obtain ⟨rfl, I⟩ := hv
  have hx := B.exec
  have hb := B.bytes
  have hr := B.returns
  have hts := atoms_spec (ws := wsX8_hasReleased) B.pre
  have hown : s.vm.findClass RX8 = some m.cls := findClass_of_methodNamed B.named
  have hlocks := B.notSynchronized
  have hl := lv_entry ([.ref r, .int (nI y1)] : List Value) (n := 4) (Nat.le_of_ble_eq_true rfl)
  rw [lg_entry_eq]
  generalize (lg_sl ([.ref r, .int (nI y1)] : List Value) ++ List.replicate (4 - (lg_sl ([.ref r, .int (nI y1)] : List Value)).length) Slot.unset).toArray = ls at hl ⊢
  have hl : lv_has ls 4 [(0, .ref r), (1, .int (nI y1))] := hl
  have hin8 : ∀ w ∈ u_ws RX8 TX8 37, w ∈ wsX8_hasReleased := fun _ h => List.mem_cons_of_mem _ (List.mem_append_right _ (h))
  have hW0 := hW
  obtain ⟨⟨w1, w2, w3, w4, w5, w6, w7⟩, w9, w12, w21, w22, w23, w25, w31, z26, z27, z28, z36⟩ := id hW
  refine lv_iconst (v := (nI 0)) hx hb dX8_hasReleased_0 (by decide) ?_
  refine lv_istore_n (lv' := [(2, .int (nI 0)), (0, .ref r), (1, .int (nI y1))]) hx hb dX8_hasReleased_1 rfl hl (by decide) rfl (fun ls hl => ?_)
  refine lv_iconst (v := (nI 0)) hx hb dX8_hasReleased_2 (by decide) ?_
  refine lv_istore_n (lv' := [(3, .int (nI 0)), (2, .int (nI 0)), (0, .ref r), (1, .int (nI y1))]) hx hb dX8_hasReleased_3 rfl hl (by decide) rfl (fun ls hl => ?_)
  have L4 : ∀ (n4 : Nat) (k4 : Nat) (a4_2 : Int32), k4 + n4 = mN σ 2 → (a4_2 = 0 ∨ a4_2 = 1) → fX8_hasReleased_L4 σ y1 n4 k4 a4_2 = G → ∀ ls : Array Slot, lv_has ls 4 [(0, .ref r), (1, .int (nI y1)), (2, .int a4_2), (3, .int (nI k4))] → W p l e (headSpec wsX8_hasReleased ({ frames := 0, cells := 0, slots := 0, locals := 0 } : Room)).room s m ([.ref r, .int (nI y1)] : List Value).toArray below meth c s.heap [] 0 0 (MQ below (xR (some (.int G))) ([.ref r, .int (nI y1)] : List Value).toArray s 0 0 (fun _ => False)) (F0 m 4 ls []) := by
    intro n4
    induction n4 with
    | zero =>
      intro k4 a4_2 hkn za4_2 hG ls hl
      have hkN : k4 = mN σ 2 := by omega
      have hG : a4_2 = G := hG
      refine lv_iload_n hx hb dX8_hasReleased_4 rfl (lv_at hl 3 rfl) ?_
      refine lv_aload_n hx hb dX8_hasReleased_5 rfl (lv_at hl 0 rfl) ?_
      refine xget (C := RX8) (T := TX8) (N := 37) 2 hx hb hts hin8 hown I hR.1 rfl (by decide) (List.mem_of_getElem? (i := 1) rfl) rfl rfl dX8_hasReleased_6 ?_
      refine lv_icmp_ge (tgt := 43) hx hb dX8_hasReleased_9 (by decide) (fun _ => ?_) (fun q => absurd (nI_le (Nat.le_of_eq hkN.symm) (by omega)) q)
      refine lv_iload_n hx hb dX8_hasReleased_43 rfl (lv_at hl 2 rfl) ?_
      exact xrzR hx hb hr hlocks dX8_hasReleased_44 hG (by have hG2 : a4_2 = G := hG; rw [← hG2]; exact xnb za4_2)
    | succ n4 ih =>
      intro k4 a4_2 hkn za4_2 hG ls hl
      have hk : k4 < mN σ 2 := by omega
      have hG : lseq ((if a4_2 = 0 then (if (mI σ 6 (20 * k4 + y1)) = (nI 1) then (nI 1) else (nI 0)) else (nI 1))) (fun q => fX8_hasReleased_L4 σ y1 n4 (k4 + 1) q) = G := hG
      refine lv_iload_n hx hb dX8_hasReleased_4 rfl (lv_at hl 3 rfl) ?_
      refine lv_aload_n hx hb dX8_hasReleased_5 rfl (lv_at hl 0 rfl) ?_
      refine xget (C := RX8) (T := TX8) (N := 37) 2 hx hb hts hin8 hown I hR.1 rfl (by decide) (List.mem_of_getElem? (i := 1) rfl) rfl rfl dX8_hasReleased_6 ?_
      refine lv_icmp_ge (tgt := 43) hx hb dX8_hasReleased_9 (by decide) (fun q => absurd q (nI_ge hk (by omega))) (fun _ => ?_)
      refine lv_iload_n hx hb dX8_hasReleased_12 rfl (lv_at hl 2 rfl) ?_
      refine lv_if_ne (tgt := 31) hx hb dX8_hasReleased_13 (by decide) (fun c_13 => ?_) (fun c_13 => ?_)
      · skip
        rw [if_neg c_13] at hG
        refine lv_iconst (v := (nI 1)) hx hb dX8_hasReleased_31 (by decide) ?_
        refine lv_goto (tgt := 36) hx hb dX8_hasReleased_32 (by decide) ?_
        refine lv_istore_n (lv' := [(2, .int (nI 1)), (0, .ref r), (1, .int (nI y1)), (3, .int (nI k4))]) hx hb dX8_hasReleased_36 rfl hl (by decide) rfl (fun ls hl => ?_)
        refine lv_iinc (v := (nI (k4 + 1))) (lv' := [(3, .int (nI (k4 + 1))), (2, .int (nI 1)), (0, .ref r), (1, .int (nI y1))]) hx hb dX8_hasReleased_37 hl (k := 3) rfl (nI_succ k4).symm (by decide) rfl (fun ls hl => ?_)
        refine lv_goto (tgt := 4) hx hb dX8_hasReleased_40 (by decide) ?_
        exact ih (k4 + 1) (nI 1) (by omega) (Or.inr rfl) hG ls (lv_sub hl [2, 3, 1, 0] rfl)
      · skip
        rw [if_pos c_13] at hG
        refine lv_aload_n hx hb dX8_hasReleased_16 rfl (lv_at hl 0 rfl) ?_
        refine xget (C := RX8) (T := TX8) (N := 37) 6 hx hb hts hin8 hown I hR.1 rfl (by decide) (List.mem_of_getElem? (i := 2) rfl) rfl rfl dX8_hasReleased_17 ?_
        refine lv_bipush (v := (nI 20)) hx hb dX8_hasReleased_20 (by decide) ?_
        refine lv_iload_n hx hb dX8_hasReleased_22 rfl (lv_at hl 3 rfl) ?_
        refine lv_imul hx hb dX8_hasReleased_23 ?_
        refine xtop (y := .int (nI (20 * k4))) (congrArg Value.int (pk_mul _ _)) ?_
        refine lv_iload_n hx hb dX8_hasReleased_24 rfl (lv_at hl 1 rfl) ?_
        refine lv_iadd hx hb dX8_hasReleased_25 ?_
        refine xtop (y := .int (nI (20 * k4 + y1))) (congrArg Value.int (nI_add _ _)) ?_
        refine xiald (i := (20 * k4 + y1)) (n := 240) hx hb I (hR.2.1 6 240 (by decide)) (by omega) (by decide) dX8_hasReleased_26 ?_
        refine lv_iconst (v := (nI 1)) hx hb dX8_hasReleased_27 (by decide) ?_
        refine lv_icmp_ne (tgt := 35) hx hb dX8_hasReleased_28 (by decide) (fun c_28 => ?_) (fun c_28 => ?_)
        · skip
          rw [if_neg c_28] at hG
          refine lv_iconst (v := (nI 0)) hx hb dX8_hasReleased_35 (by decide) ?_
          refine lv_istore_n (lv' := [(2, .int (nI 0)), (0, .ref r), (1, .int (nI y1)), (3, .int (nI k4))]) hx hb dX8_hasReleased_36 rfl hl (by decide) rfl (fun ls hl => ?_)
          refine lv_iinc (v := (nI (k4 + 1))) (lv' := [(3, .int (nI (k4 + 1))), (2, .int (nI 0)), (0, .ref r), (1, .int (nI y1))]) hx hb dX8_hasReleased_37 hl (k := 3) rfl (nI_succ k4).symm (by decide) rfl (fun ls hl => ?_)
          refine lv_goto (tgt := 4) hx hb dX8_hasReleased_40 (by decide) ?_
          exact ih (k4 + 1) (nI 0) (by omega) (Or.inl rfl) hG ls (lv_sub hl [2, 3, 1, 0] rfl)
        · skip
          rw [if_pos c_28] at hG
          refine lv_iconst (v := (nI 1)) hx hb dX8_hasReleased_31 (by decide) ?_
          refine lv_goto (tgt := 36) hx hb dX8_hasReleased_32 (by decide) ?_
          refine lv_istore_n (lv' := [(2, .int (nI 1)), (0, .ref r), (1, .int (nI y1)), (3, .int (nI k4))]) hx hb dX8_hasReleased_36 rfl hl (by decide) rfl (fun ls hl => ?_)
          refine lv_iinc (v := (nI (k4 + 1))) (lv' := [(3, .int (nI (k4 + 1))), (2, .int (nI 1)), (0, .ref r), (1, .int (nI y1))]) hx hb dX8_hasReleased_37 hl (k := 3) rfl (nI_succ k4).symm (by decide) rfl (fun ls hl => ?_)
          refine lv_goto (tgt := 4) hx hb dX8_hasReleased_40 (by decide) ?_
          exact ih (k4 + 1) (nI 1) (by omega) (Or.inr rfl) hG ls (lv_sub hl [2, 3, 1, 0] rfl)
  exact L4 (mN σ 2) 0 (nI 0) (by omega) (Or.inl rfl) hG ls (lv_sub hl [2, 3, 1, 0] rfl)

def fX8_areAllSettled_S4 (σ : MT) (y1 : Int32) (k4 : Nat) (a4_2 : Int32) : (Int32) := (if a4_2 = 0 then (nI 0) else (if (nI ((mK σ 23 k4) / 100)) = y1 then (if (mI σ 26 k4) = 0 then (nI 0) else (nI 1)) else (nI 1)))
def fX8_areAllSettled_L4 (σ : MT) (y1 : Int32) : Nat → Nat → Int32 → Int32
  | 0, k4, a4_2 => a4_2
  | n4 + 1, k4, a4_2 => lseq (fX8_areAllSettled_S4 σ y1 k4 a4_2) (fun q => fX8_areAllSettled_L4 σ y1 n4 (k4 + 1) q)
def fX8_areAllSettled (σ : MT) (y1 : Int32) : Int32 := (fX8_areAllSettled_L4 σ y1 (mN σ 20) 0 (nI 1))
set_option maxHeartbeats 4000000 in
set_option maxRecDepth 100000 in
theorem mX8_areAllSettled (l : Launch) (lo : Nat) (D : va_G) (E : Nat → ClassId) (h : XW) (σ : MT) (th : Int32) (r : Nat) (ar : Nat → Nat) (hR : RM E σ th r ar h) (hW : MW σ) (y1 : Int32) : Met l yX8_areAllSettled wsX8_areAllSettled ({ frames := 0, cells := 0, slots := 0, locals := 0 } : Room) (xP lo D E h [.ref r, .int y1]) (xR (some (.int (fX8_areAllSettled σ y1)))) 0 0 (fun _ => False) := by
  obtain ⟨G, hG⟩ : ∃ G, fX8_areAllSettled σ y1 = G := ⟨_, rfl⟩
  rw [hG]
  unfold fX8_areAllSettled at hG
  refine Met.ofW (cc := cX8_areAllSettled) (maxL := 4) (ret := (some .boolean)) (by decide) rfl ?_
  intro p e s m args below meth c s₁ B hml hv
  obtain ⟨rfl, I⟩ := hv
  have hx := B.exec
  have hb := B.bytes
  have hr := B.returns
  have hts := atoms_spec (ws := wsX8_areAllSettled) B.pre
  have hown : s.vm.findClass RX8 = some m.cls := findClass_of_methodNamed B.named
  have hlocks := B.notSynchronized
  have hl := lv_entry ([.ref r, .int y1] : List Value) (n := 4) (Nat.le_of_ble_eq_true rfl)
  rw [lg_entry_eq]
  generalize (lg_sl ([.ref r, .int y1] : List Value) ++ List.replicate (4 - (lg_sl ([.ref r, .int y1] : List Value)).length) Slot.unset).toArray = ls at hl ⊢
  have hl : lv_has ls 4 [(0, .ref r), (1, .int y1)] := hl
  have hin8 : ∀ w ∈ u_ws RX8 TX8 37, w ∈ wsX8_areAllSettled := fun _ h => List.mem_cons_of_mem _ (List.mem_append_right _ (h))
  have hW0 := hW
  obtain ⟨⟨w1, w2, w3, w4, w5, w6, w7⟩, w9, w12, w21, w22, w23, w25, w31, z26, z27, z28, z36⟩ := id hW
  refine lv_iconst (v := (nI 1)) hx hb dX8_areAllSettled_0 (by decide) ?_
  refine lv_istore_n (lv' := [(2, .int (nI 1)), (0, .ref r), (1, .int y1)]) hx hb dX8_areAllSettled_1 rfl hl (by decide) rfl (fun ls hl => ?_)
  refine lv_iconst (v := (nI 0)) hx hb dX8_areAllSettled_2 (by decide) ?_
  refine lv_istore_n (lv' := [(3, .int (nI 0)), (2, .int (nI 1)), (0, .ref r), (1, .int y1)]) hx hb dX8_areAllSettled_3 rfl hl (by decide) rfl (fun ls hl => ?_)
  have L4 : ∀ (n4 : Nat) (k4 : Nat) (a4_2 : Int32), k4 + n4 = mN σ 20 → (a4_2 = 0 ∨ a4_2 = 1) → fX8_areAllSettled_L4 σ y1 n4 k4 a4_2 = G → ∀ ls : Array Slot, lv_has ls 4 [(0, .ref r), (1, .int y1), (2, .int a4_2), (3, .int (nI k4))] → W p l e (headSpec wsX8_areAllSettled ({ frames := 0, cells := 0, slots := 0, locals := 0 } : Room)).room s m ([.ref r, .int y1] : List Value).toArray below meth c s.heap [] 0 0 (MQ below (xR (some (.int G))) ([.ref r, .int y1] : List Value).toArray s 0 0 (fun _ => False)) (F0 m 4 ls []) := by
    intro n4
    induction n4 with
    | zero =>
      intro k4 a4_2 hkn za4_2 hG ls hl
      have hkN : k4 = mN σ 20 := by omega
      have hG : a4_2 = G := hG
      refine lv_iload_n hx hb dX8_areAllSettled_4 rfl (lv_at hl 3 rfl) ?_
      refine lv_aload_n hx hb dX8_areAllSettled_5 rfl (lv_at hl 0 rfl) ?_
      refine xget (C := RX8) (T := TX8) (N := 37) 20 hx hb hts hin8 hown I hR.1 rfl (by decide) (List.mem_of_getElem? (i := 1) rfl) rfl rfl dX8_areAllSettled_6 ?_
      refine lv_icmp_ge (tgt := 50) hx hb dX8_areAllSettled_9 (by decide) (fun _ => ?_) (fun q => absurd (nI_le (Nat.le_of_eq hkN.symm) (by omega)) q)
      refine lv_iload_n hx hb dX8_areAllSettled_50 rfl (lv_at hl 2 rfl) ?_
      exact xrzR hx hb hr hlocks dX8_areAllSettled_51 hG (by have hG2 : a4_2 = G := hG; rw [← hG2]; exact xnb za4_2)
    | succ n4 ih =>
      intro k4 a4_2 hkn za4_2 hG ls hl
      have hk : k4 < mN σ 20 := by omega
      have hG : lseq ((if a4_2 = 0 then (nI 0) else (if (nI ((mK σ 23 k4) / 100)) = y1 then (if (mI σ 26 k4) = 0 then (nI 0) else (nI 1)) else (nI 1)))) (fun q => fX8_areAllSettled_L4 σ y1 n4 (k4 + 1) q) = G := hG
      refine lv_iload_n hx hb dX8_areAllSettled_4 rfl (lv_at hl 3 rfl) ?_
      refine lv_aload_n hx hb dX8_areAllSettled_5 rfl (lv_at hl 0 rfl) ?_
      refine xget (C := RX8) (T := TX8) (N := 37) 20 hx hb hts hin8 hown I hR.1 rfl (by decide) (List.mem_of_getElem? (i := 1) rfl) rfl rfl dX8_areAllSettled_6 ?_
      refine lv_icmp_ge (tgt := 50) hx hb dX8_areAllSettled_9 (by decide) (fun q => absurd q (nI_ge hk (by omega))) (fun _ => ?_)
      refine lv_iload_n hx hb dX8_areAllSettled_12 rfl (lv_at hl 2 rfl) ?_
      refine lv_if_eq (tgt := 42) hx hb dX8_areAllSettled_13 (by decide) (fun c_13 => ?_) (fun c_13 => ?_)
      · skip
        rw [if_pos c_13] at hG
        refine lv_iconst (v := (nI 0)) hx hb dX8_areAllSettled_42 (by decide) ?_
        refine lv_istore_n (lv' := [(2, .int (nI 0)), (0, .ref r), (1, .int y1), (3, .int (nI k4))]) hx hb dX8_areAllSettled_43 rfl hl (by decide) rfl (fun ls hl => ?_)
        refine lv_iinc (v := (nI (k4 + 1))) (lv' := [(3, .int (nI (k4 + 1))), (2, .int (nI 0)), (0, .ref r), (1, .int y1)]) hx hb dX8_areAllSettled_44 hl (k := 3) rfl (nI_succ k4).symm (by decide) rfl (fun ls hl => ?_)
        refine lv_goto (tgt := 4) hx hb dX8_areAllSettled_47 (by decide) ?_
        exact ih (k4 + 1) (nI 0) (by omega) (Or.inl rfl) hG ls (lv_sub hl [2, 3, 1, 0] rfl)
      · skip
        rw [if_neg c_13] at hG
        refine lv_aload_n hx hb dX8_areAllSettled_16 rfl (lv_at hl 0 rfl) ?_
        refine xget (C := RX8) (T := TX8) (N := 37) 23 hx hb hts hin8 hown I hR.1 rfl (by decide) (List.mem_of_getElem? (i := 2) rfl) rfl rfl dX8_areAllSettled_17 ?_
        refine lv_iload_n hx hb dX8_areAllSettled_20 rfl (lv_at hl 3 rfl) ?_
        refine xiald (i := k4) (n := 60) hx hb I (hR.2.2.1 23 60 (by decide)) (by omega) (by decide) dX8_areAllSettled_21 ?_
        have b21 := w23 k4 (by omega)
        refine lv_bipush (v := (nI 100)) hx hb dX8_areAllSettled_22 (by decide) ?_
        refine lv_idiv hx hb dX8_areAllSettled_24 (by decide) ?_
        refine xtop (y := .int (nI ((mK σ 23 k4) / 100))) (congrArg Value.int (pk_div (by omega) (by decide) (by decide))) ?_
        refine lv_iload_n hx hb dX8_areAllSettled_25 rfl (lv_at hl 1 rfl) ?_
        refine lv_icmp_ne (tgt := 38) hx hb dX8_areAllSettled_26 (by decide) (fun c_26 => ?_) (fun c_26 => ?_)
        · skip
          rw [if_neg c_26] at hG
          refine lv_iconst (v := (nI 1)) hx hb dX8_areAllSettled_38 (by decide) ?_
          refine lv_goto (tgt := 43) hx hb dX8_areAllSettled_39 (by decide) ?_
          refine lv_istore_n (lv' := [(2, .int (nI 1)), (0, .ref r), (1, .int y1), (3, .int (nI k4))]) hx hb dX8_areAllSettled_43 rfl hl (by decide) rfl (fun ls hl => ?_)
          refine lv_iinc (v := (nI (k4 + 1))) (lv' := [(3, .int (nI (k4 + 1))), (2, .int (nI 1)), (0, .ref r), (1, .int y1)]) hx hb dX8_areAllSettled_44 hl (k := 3) rfl (nI_succ k4).symm (by decide) rfl (fun ls hl => ?_)
          refine lv_goto (tgt := 4) hx hb dX8_areAllSettled_47 (by decide) ?_
          exact ih (k4 + 1) (nI 1) (by omega) (Or.inr rfl) hG ls (lv_sub hl [2, 3, 1, 0] rfl)
        · skip
          rw [if_pos c_26] at hG
          refine lv_aload_n hx hb dX8_areAllSettled_29 rfl (lv_at hl 0 rfl) ?_
          refine xget (C := RX8) (T := TX8) (N := 37) 26 hx hb hts hin8 hown I hR.1 rfl (by decide) (List.mem_of_getElem? (i := 3) rfl) rfl rfl dX8_areAllSettled_30 ?_
          refine lv_iload_n hx hb dX8_areAllSettled_33 rfl (lv_at hl 3 rfl) ?_
          refine xzald (i := k4) (n := 60) hx hb I (hR.2.2.2.2.1 26 60 (by decide)) (by omega) (by decide) dX8_areAllSettled_34 ?_
          refine lv_if_eq (tgt := 42) hx hb dX8_areAllSettled_35 (by decide) (fun c_35 => ?_) (fun c_35 => ?_)
          · skip
            rw [if_pos c_35] at hG
            refine lv_iconst (v := (nI 0)) hx hb dX8_areAllSettled_42 (by decide) ?_
            refine lv_istore_n (lv' := [(2, .int (nI 0)), (0, .ref r), (1, .int y1), (3, .int (nI k4))]) hx hb dX8_areAllSettled_43 rfl hl (by decide) rfl (fun ls hl => ?_)
            refine lv_iinc (v := (nI (k4 + 1))) (lv' := [(3, .int (nI (k4 + 1))), (2, .int (nI 0)), (0, .ref r), (1, .int y1)]) hx hb dX8_areAllSettled_44 hl (k := 3) rfl (nI_succ k4).symm (by decide) rfl (fun ls hl => ?_)
            refine lv_goto (tgt := 4) hx hb dX8_areAllSettled_47 (by decide) ?_
            exact ih (k4 + 1) (nI 0) (by omega) (Or.inl rfl) hG ls (lv_sub hl [2, 3, 1, 0] rfl)
          · skip
            rw [if_neg c_35] at hG
            refine lv_iconst (v := (nI 1)) hx hb dX8_areAllSettled_38 (by decide) ?_
            refine lv_goto (tgt := 43) hx hb dX8_areAllSettled_39 (by decide) ?_
            refine lv_istore_n (lv' := [(2, .int (nI 1)), (0, .ref r), (1, .int y1), (3, .int (nI k4))]) hx hb dX8_areAllSettled_43 rfl hl (by decide) rfl (fun ls hl => ?_)
            refine lv_iinc (v := (nI (k4 + 1))) (lv' := [(3, .int (nI (k4 + 1))), (2, .int (nI 1)), (0, .ref r), (1, .int y1)]) hx hb dX8_areAllSettled_44 hl (k := 3) rfl (nI_succ k4).symm (by decide) rfl (fun ls hl => ?_)
            refine lv_goto (tgt := 4) hx hb dX8_areAllSettled_47 (by decide) ?_
            exact ih (k4 + 1) (nI 1) (by omega) (Or.inr rfl) hG ls (lv_sub hl [2, 3, 1, 0] rfl)
  exact L4 (mN σ 20) 0 (nI 1) (by omega) (Or.inr rfl) hG ls (lv_sub hl [2, 3, 1, 0] rfl)

def fX8_down (x1 : Int64) (x2 : Int64) : Int64 := (if (0 : Int64) ≤ (x1 - x1 / x2 * x2) then (x1 / x2) else ((x1 / x2) - (1 : Int64)))
set_option maxHeartbeats 4000000 in
set_option maxRecDepth 100000 in
theorem mX8_down (l : Launch) (lo : Nat) (D : va_G) (E : Nat → ClassId) (h : XW) (x1 : Int64) (x2 : Int64) (hne : ¬ x2 = 0) : Met l yX8_down wsX8_down ({ frames := 0, cells := 0, slots := 0, locals := 0 } : Room) (xP lo D E h [.long x1, .long x2]) (xR (some (.long (fX8_down x1 x2)))) 0 0 (fun _ => False) := by
  obtain ⟨G, hG⟩ : ∃ G, fX8_down x1 x2 = G := ⟨_, rfl⟩
  rw [hG]
  unfold fX8_down at hG
  refine Met.ofW (cc := cX8_down) (maxL := 6) (ret := (some .long)) (by decide) rfl ?_
  intro p e s m args below meth c s₁ B hml hv
  obtain ⟨rfl, I⟩ := hv
  have hx := B.exec
  have hb := B.bytes
  have hr := B.returns
  have hts := atoms_spec (ws := wsX8_down) B.pre
  have hown : s.vm.findClass RX8 = some m.cls := findClass_of_methodNamed B.named
  have hlocks := B.notSynchronized
  have hl := lv_entry ([.long x1, .long x2] : List Value) (n := 6) (Nat.le_of_ble_eq_true rfl)
  rw [lg_entry_eq]
  generalize (lg_sl ([.long x1, .long x2] : List Value) ++ List.replicate (6 - (lg_sl ([.long x1, .long x2] : List Value)).length) Slot.unset).toArray = ls at hl ⊢
  have hl : lv_has ls 6 [(0, .long x1), (2, .long x2)] := hl
  refine lv_lload_n hx hb dX8_down_0 rfl (lv_at hl 0 rfl) ?_
  refine lv_lload_n hx hb dX8_down_1 rfl (lv_at hl 1 rfl) ?_
  refine lv_ldiv hx hb dX8_down_2 hne ?_
  refine lv_lstore (lv' := [(4, .long (x1 / x2)), (0, .long x1), (2, .long x2)]) hx hb dX8_down_3 hl (by decide) rfl (fun ls hl => ?_)
  refine lv_lload_n hx hb dX8_down_5 rfl (lv_at hl 1 rfl) ?_
  refine lv_lload_n hx hb dX8_down_6 rfl (lv_at hl 2 rfl) ?_
  refine lv_lrem hx hb dX8_down_7 hne ?_
  refine lv_lconst (v := (0 : Int64)) hx hb dX8_down_8 rfl ?_
  refine xl_ge (tgt := 20) hx hb dX8_down_9 dX8_down_10 (by decide) (fun c_9 => ?_) (fun c_9 => ?_)
  · skip
    rw [if_pos c_9] at hG
    refine lv_lload hx hb dX8_down_20 (lv_at hl 0 rfl) ?_
    exact xrlR hx hb hr hlocks dX8_down_22 hG
  · skip
    rw [if_neg c_9] at hG
    refine lv_lload hx hb dX8_down_13 (lv_at hl 0 rfl) ?_
    refine lv_lconst (v := (1 : Int64)) hx hb dX8_down_15 rfl ?_
    refine lv_lsub hx hb dX8_down_16 ?_
    refine lv_goto (tgt := 22) hx hb dX8_down_17 (by decide) ?_
    exact xrlR hx hb hr hlocks dX8_down_22 hG

def fX8_isHeld_S4 (σ : MT) (s1 : Nat) (k4 : Nat) (a4_2 : Int32) : (Int32) := (if a4_2 = 0 then (if (mI σ 36 (60 * s1 + k4)) = 0 then (nI 0) else (if (mI σ 26 k4) = 0 then (if (mI σ 24 k4) ≤ (mI σ 29 k4) then (nI 0) else (nI 1)) else (nI 0))) else (nI 1))
def fX8_isHeld_L4 (σ : MT) (s1 : Nat) : Nat → Nat → Int32 → Int32
  | 0, k4, a4_2 => a4_2
  | n4 + 1, k4, a4_2 => lseq (fX8_isHeld_S4 σ s1 k4 a4_2) (fun q => fX8_isHeld_L4 σ s1 n4 (k4 + 1) q)
def fX8_isHeld (σ : MT) (s1 : Nat) : Int32 := (fX8_isHeld_L4 σ s1 (mN σ 20) 0 (nI 0))
set_option maxHeartbeats 4000000 in
set_option maxRecDepth 100000 in
theorem mX8_isHeld (l : Launch) (lo : Nat) (D : va_G) (E : Nat → ClassId) (h : XW) (σ : MT) (th : Int32) (r : Nat) (ar : Nat → Nat) (hR : RM E σ th r ar h) (hW : MW σ) (s1 : Nat) (hs : s1 < 24) : Met l yX8_isHeld wsX8_isHeld ({ frames := 0, cells := 0, slots := 0, locals := 0 } : Room) (xP lo D E h [.ref r, .int (nI s1)]) (xR (some (.int (fX8_isHeld σ s1)))) 0 0 (fun _ => False) := by
  obtain ⟨G, hG⟩ : ∃ G, fX8_isHeld σ s1 = G := ⟨_, rfl⟩
  rw [hG]
  unfold fX8_isHeld at hG
  refine Met.ofW (cc := cX8_isHeld) (maxL := 4) (ret := (some .boolean)) (by decide) rfl ?_
  intro p e s m args below meth c s₁ B hml hv
  obtain ⟨rfl, I⟩ := hv
  have hx := B.exec
  have hb := B.bytes
  have hr := B.returns
  have hts := atoms_spec (ws := wsX8_isHeld) B.pre
  have hown : s.vm.findClass RX8 = some m.cls := findClass_of_methodNamed B.named
  have hlocks := B.notSynchronized
  have hl := lv_entry ([.ref r, .int (nI s1)] : List Value) (n := 4) (Nat.le_of_ble_eq_true rfl)
  rw [lg_entry_eq]
  generalize (lg_sl ([.ref r, .int (nI s1)] : List Value) ++ List.replicate (4 - (lg_sl ([.ref r, .int (nI s1)] : List Value)).length) Slot.unset).toArray = ls at hl ⊢
  have hl : lv_has ls 4 [(0, .ref r), (1, .int (nI s1))] := hl
  have hin8 : ∀ w ∈ u_ws RX8 TX8 37, w ∈ wsX8_isHeld := fun _ h => List.mem_cons_of_mem _ (List.mem_append_right _ (h))
  have hW0 := hW
  obtain ⟨⟨w1, w2, w3, w4, w5, w6, w7⟩, w9, w12, w21, w22, w23, w25, w31, z26, z27, z28, z36⟩ := id hW
  refine lv_iconst (v := (nI 0)) hx hb dX8_isHeld_0 (by decide) ?_
  refine lv_istore_n (lv' := [(2, .int (nI 0)), (0, .ref r), (1, .int (nI s1))]) hx hb dX8_isHeld_1 rfl hl (by decide) rfl (fun ls hl => ?_)
  refine lv_iconst (v := (nI 0)) hx hb dX8_isHeld_2 (by decide) ?_
  refine lv_istore_n (lv' := [(3, .int (nI 0)), (2, .int (nI 0)), (0, .ref r), (1, .int (nI s1))]) hx hb dX8_isHeld_3 rfl hl (by decide) rfl (fun ls hl => ?_)
  have L4 : ∀ (n4 : Nat) (k4 : Nat) (a4_2 : Int32), k4 + n4 = mN σ 20 → (a4_2 = 0 ∨ a4_2 = 1) → fX8_isHeld_L4 σ s1 n4 k4 a4_2 = G → ∀ ls : Array Slot, lv_has ls 4 [(0, .ref r), (1, .int (nI s1)), (2, .int a4_2), (3, .int (nI k4))] → W p l e (headSpec wsX8_isHeld ({ frames := 0, cells := 0, slots := 0, locals := 0 } : Room)).room s m ([.ref r, .int (nI s1)] : List Value).toArray below meth c s.heap [] 0 0 (MQ below (xR (some (.int G))) ([.ref r, .int (nI s1)] : List Value).toArray s 0 0 (fun _ => False)) (F0 m 4 ls []) := by
    intro n4
    induction n4 with
    | zero =>
      intro k4 a4_2 hkn za4_2 hG ls hl
      have hkN : k4 = mN σ 20 := by omega
      have hG : a4_2 = G := hG
      refine lv_iload_n hx hb dX8_isHeld_4 rfl (lv_at hl 3 rfl) ?_
      refine lv_aload_n hx hb dX8_isHeld_5 rfl (lv_at hl 0 rfl) ?_
      refine xget (C := RX8) (T := TX8) (N := 37) 20 hx hb hts hin8 hown I hR.1 rfl (by decide) (List.mem_of_getElem? (i := 1) rfl) rfl rfl dX8_isHeld_6 ?_
      refine lv_icmp_ge (tgt := 66) hx hb dX8_isHeld_9 (by decide) (fun _ => ?_) (fun q => absurd (nI_le (Nat.le_of_eq hkN.symm) (by omega)) q)
      refine lv_iload_n hx hb dX8_isHeld_66 rfl (lv_at hl 2 rfl) ?_
      exact xrzR hx hb hr hlocks dX8_isHeld_67 hG (by have hG2 : a4_2 = G := hG; rw [← hG2]; exact xnb za4_2)
    | succ n4 ih =>
      intro k4 a4_2 hkn za4_2 hG ls hl
      have hk : k4 < mN σ 20 := by omega
      have hG : lseq ((if a4_2 = 0 then (if (mI σ 36 (60 * s1 + k4)) = 0 then (nI 0) else (if (mI σ 26 k4) = 0 then (if (mI σ 24 k4) ≤ (mI σ 29 k4) then (nI 0) else (nI 1)) else (nI 0))) else (nI 1))) (fun q => fX8_isHeld_L4 σ s1 n4 (k4 + 1) q) = G := hG
      refine lv_iload_n hx hb dX8_isHeld_4 rfl (lv_at hl 3 rfl) ?_
      refine lv_aload_n hx hb dX8_isHeld_5 rfl (lv_at hl 0 rfl) ?_
      refine xget (C := RX8) (T := TX8) (N := 37) 20 hx hb hts hin8 hown I hR.1 rfl (by decide) (List.mem_of_getElem? (i := 1) rfl) rfl rfl dX8_isHeld_6 ?_
      refine lv_icmp_ge (tgt := 66) hx hb dX8_isHeld_9 (by decide) (fun q => absurd q (nI_ge hk (by omega))) (fun _ => ?_)
      refine lv_iload_n hx hb dX8_isHeld_12 rfl (lv_at hl 2 rfl) ?_
      refine lv_if_ne (tgt := 54) hx hb dX8_isHeld_13 (by decide) (fun c_13 => ?_) (fun c_13 => ?_)
      · skip
        rw [if_neg c_13] at hG
        refine lv_iconst (v := (nI 1)) hx hb dX8_isHeld_54 (by decide) ?_
        refine lv_goto (tgt := 59) hx hb dX8_isHeld_55 (by decide) ?_
        refine lv_istore_n (lv' := [(2, .int (nI 1)), (0, .ref r), (1, .int (nI s1)), (3, .int (nI k4))]) hx hb dX8_isHeld_59 rfl hl (by decide) rfl (fun ls hl => ?_)
        refine lv_iinc (v := (nI (k4 + 1))) (lv' := [(3, .int (nI (k4 + 1))), (2, .int (nI 1)), (0, .ref r), (1, .int (nI s1))]) hx hb dX8_isHeld_60 hl (k := 3) rfl (nI_succ k4).symm (by decide) rfl (fun ls hl => ?_)
        refine lv_goto (tgt := 4) hx hb dX8_isHeld_63 (by decide) ?_
        exact ih (k4 + 1) (nI 1) (by omega) (Or.inr rfl) hG ls (lv_sub hl [2, 3, 1, 0] rfl)
      · skip
        rw [if_pos c_13] at hG
        refine lv_aload_n hx hb dX8_isHeld_16 rfl (lv_at hl 0 rfl) ?_
        refine xget (C := RX8) (T := TX8) (N := 37) 36 hx hb hts hin8 hown I hR.1 rfl (by decide) (List.mem_of_getElem? (i := 2) rfl) rfl rfl dX8_isHeld_17 ?_
        refine lv_bipush (v := (nI 60)) hx hb dX8_isHeld_20 (by decide) ?_
        refine lv_iload_n hx hb dX8_isHeld_22 rfl (lv_at hl 1 rfl) ?_
        refine lv_imul hx hb dX8_isHeld_23 ?_
        refine xtop (y := .int (nI (60 * s1))) (congrArg Value.int (pk_mul _ _)) ?_
        refine lv_iload_n hx hb dX8_isHeld_24 rfl (lv_at hl 3 rfl) ?_
        refine lv_iadd hx hb dX8_isHeld_25 ?_
        refine xtop (y := .int (nI (60 * s1 + k4))) (congrArg Value.int (nI_add _ _)) ?_
        refine xzald (i := (60 * s1 + k4)) (n := 1440) hx hb I (hR.2.2.2.2.1 36 1440 (by decide)) (by omega) (by decide) dX8_isHeld_26 ?_
        refine lv_if_eq (tgt := 58) hx hb dX8_isHeld_27 (by decide) (fun c_27 => ?_) (fun c_27 => ?_)
        · skip
          rw [if_pos c_27] at hG
          refine lv_iconst (v := (nI 0)) hx hb dX8_isHeld_58 (by decide) ?_
          refine lv_istore_n (lv' := [(2, .int (nI 0)), (0, .ref r), (1, .int (nI s1)), (3, .int (nI k4))]) hx hb dX8_isHeld_59 rfl hl (by decide) rfl (fun ls hl => ?_)
          refine lv_iinc (v := (nI (k4 + 1))) (lv' := [(3, .int (nI (k4 + 1))), (2, .int (nI 0)), (0, .ref r), (1, .int (nI s1))]) hx hb dX8_isHeld_60 hl (k := 3) rfl (nI_succ k4).symm (by decide) rfl (fun ls hl => ?_)
          refine lv_goto (tgt := 4) hx hb dX8_isHeld_63 (by decide) ?_
          exact ih (k4 + 1) (nI 0) (by omega) (Or.inl rfl) hG ls (lv_sub hl [2, 3, 1, 0] rfl)
        · skip
          rw [if_neg c_27] at hG
          refine lv_aload_n hx hb dX8_isHeld_30 rfl (lv_at hl 0 rfl) ?_
          refine xget (C := RX8) (T := TX8) (N := 37) 26 hx hb hts hin8 hown I hR.1 rfl (by decide) (List.mem_of_getElem? (i := 3) rfl) rfl rfl dX8_isHeld_31 ?_
          refine lv_iload_n hx hb dX8_isHeld_34 rfl (lv_at hl 3 rfl) ?_
          refine xzald (i := k4) (n := 60) hx hb I (hR.2.2.2.2.1 26 60 (by decide)) (by omega) (by decide) dX8_isHeld_35 ?_
          refine lv_if_ne (tgt := 58) hx hb dX8_isHeld_36 (by decide) (fun c_36 => ?_) (fun c_36 => ?_)
          · skip
            rw [if_neg c_36] at hG
            refine lv_iconst (v := (nI 0)) hx hb dX8_isHeld_58 (by decide) ?_
            refine lv_istore_n (lv' := [(2, .int (nI 0)), (0, .ref r), (1, .int (nI s1)), (3, .int (nI k4))]) hx hb dX8_isHeld_59 rfl hl (by decide) rfl (fun ls hl => ?_)
            refine lv_iinc (v := (nI (k4 + 1))) (lv' := [(3, .int (nI (k4 + 1))), (2, .int (nI 0)), (0, .ref r), (1, .int (nI s1))]) hx hb dX8_isHeld_60 hl (k := 3) rfl (nI_succ k4).symm (by decide) rfl (fun ls hl => ?_)
            refine lv_goto (tgt := 4) hx hb dX8_isHeld_63 (by decide) ?_
            exact ih (k4 + 1) (nI 0) (by omega) (Or.inl rfl) hG ls (lv_sub hl [2, 3, 1, 0] rfl)
          · skip
            rw [if_pos c_36] at hG
            refine lv_aload_n hx hb dX8_isHeld_39 rfl (lv_at hl 0 rfl) ?_
            refine xget (C := RX8) (T := TX8) (N := 37) 29 hx hb hts hin8 hown I hR.1 rfl (by decide) (List.mem_of_getElem? (i := 4) rfl) rfl rfl dX8_isHeld_40 ?_
            refine lv_iload_n hx hb dX8_isHeld_43 rfl (lv_at hl 3 rfl) ?_
            refine xiald (i := k4) (n := 60) hx hb I (hR.2.1 29 60 (by decide)) (by omega) (by decide) dX8_isHeld_44 ?_
            refine lv_aload_n hx hb dX8_isHeld_45 rfl (lv_at hl 0 rfl) ?_
            refine xget (C := RX8) (T := TX8) (N := 37) 24 hx hb hts hin8 hown I hR.1 rfl (by decide) (List.mem_of_getElem? (i := 5) rfl) rfl rfl dX8_isHeld_46 ?_
            refine lv_iload_n hx hb dX8_isHeld_49 rfl (lv_at hl 3 rfl) ?_
            refine xiald (i := k4) (n := 60) hx hb I (hR.2.1 24 60 (by decide)) (by omega) (by decide) dX8_isHeld_50 ?_
            refine lv_icmp_ge (tgt := 58) hx hb dX8_isHeld_51 (by decide) (fun c_51 => ?_) (fun c_51 => ?_)
            · skip
              rw [if_pos c_51] at hG
              refine lv_iconst (v := (nI 0)) hx hb dX8_isHeld_58 (by decide) ?_
              refine lv_istore_n (lv' := [(2, .int (nI 0)), (0, .ref r), (1, .int (nI s1)), (3, .int (nI k4))]) hx hb dX8_isHeld_59 rfl hl (by decide) rfl (fun ls hl => ?_)
              refine lv_iinc (v := (nI (k4 + 1))) (lv' := [(3, .int (nI (k4 + 1))), (2, .int (nI 0)), (0, .ref r), (1, .int (nI s1))]) hx hb dX8_isHeld_60 hl (k := 3) rfl (nI_succ k4).symm (by decide) rfl (fun ls hl => ?_)
              refine lv_goto (tgt := 4) hx hb dX8_isHeld_63 (by decide) ?_
              exact ih (k4 + 1) (nI 0) (by omega) (Or.inl rfl) hG ls (lv_sub hl [2, 3, 1, 0] rfl)
            · skip
              rw [if_neg c_51] at hG
              refine lv_iconst (v := (nI 1)) hx hb dX8_isHeld_54 (by decide) ?_
              refine lv_goto (tgt := 59) hx hb dX8_isHeld_55 (by decide) ?_
              refine lv_istore_n (lv' := [(2, .int (nI 1)), (0, .ref r), (1, .int (nI s1)), (3, .int (nI k4))]) hx hb dX8_isHeld_59 rfl hl (by decide) rfl (fun ls hl => ?_)
              refine lv_iinc (v := (nI (k4 + 1))) (lv' := [(3, .int (nI (k4 + 1))), (2, .int (nI 1)), (0, .ref r), (1, .int (nI s1))]) hx hb dX8_isHeld_60 hl (k := 3) rfl (nI_succ k4).symm (by decide) rfl (fun ls hl => ?_)
              refine lv_goto (tgt := 4) hx hb dX8_isHeld_63 (by decide) ?_
              exact ih (k4 + 1) (nI 1) (by omega) (Or.inr rfl) hG ls (lv_sub hl [2, 3, 1, 0] rfl)
  exact L4 (mN σ 20) 0 (nI 0) (by omega) (Or.inl rfl) hG ls (lv_sub hl [2, 3, 1, 0] rfl)

def tn (x : Int32) : Nat := x.toNatClampNeg
theorem tn_nI {n : Nat} (h : n < 2 ^ 31) : tn (nI n) = n := nI_clamp h
theorem ruleOf_L (σ : MT) (k1 y1 : Nat) (hk : k1 < 4) (hy : y1 < 20) : ∀ (n k : Nat) (a : Int32), k + n = y1 + 1 → (a = (-1) ∨ ∃ j, j < 80 ∧ a = nI j) → (fX8_ruleOf_L5 σ k1 y1 n k a = (-1) ∨ ∃ j, j < 80 ∧ fX8_ruleOf_L5 σ k1 y1 n k a = nI j) := by
  intro n
  induction n with
  | zero => intro k a _ h; exact h
  | succ n ih =>
    intro k a hk h
    refine ih (k + 1) _ (by omega) ?_
    unfold fX8_ruleOf_S5
    try unfold fX8_ruleOf_B39
    split
    · exact h
    · exact Or.inr ⟨20 * k1 + k, by omega, rfl⟩
theorem ruleOf_ok {σ : MT} {k1 y1 : Nat} (hk : k1 < 4) (hy : y1 < 20) (h : ¬ fX8_ruleOf σ k1 y1 = (-1)) : fX8_ruleOf σ k1 y1 = nI (tn (fX8_ruleOf σ k1 y1)) ∧ tn (fX8_ruleOf σ k1 y1) < 80 := by
  rcases ruleOf_L σ k1 y1 hk hy (y1 + 1) 0 (-1) (by omega) (Or.inl rfl) with h1 | ⟨j, hj, h1⟩
  · exact absurd h1 h
  · have h2 : fX8_ruleOf σ k1 y1 = nI j := h1
    rw [h2, tn_nI (by omega)]
    exact ⟨rfl, hj⟩

def fX8_together_B167 (σ : MT) (c1 : Nat) (v150_0 : Int64) (v167_0 : Int32) : Int64 := (if (0 : Int64) ≤ (v150_0 - v167_0.toInt64) then (v150_0 - v167_0.toInt64) else (0 : Int64))
def fX8_together_B150 (σ : MT) (c1 : Nat) (v150_0 : Int64) : Int64 := (fX8_together_B167 σ c1 v150_0 (if (fX8_ruleOf σ (mK σ 22 c1) ((mK σ 23 c1) / 100)) = (-1) then (nI 0) else (mI σ 15 (tn (fX8_ruleOf σ (mK σ 22 c1) (mK σ 23 c1 / 100))))))
def fX8_together_B135 (σ : MT) (c1 : Nat) (a5_2 : Int64) (v135_0 : Int64) : Int64 := (fX8_together_B150 σ c1 (if v135_0 ≤ a5_2 then v135_0 else a5_2))
def fX8_together_B86 (σ : MT) (c1 : Nat) (a5_2 : Int64) (v86_0 : Int64) : (Int64) := (a5_2 + v86_0)
def fX8_together_B67 (σ : MT) (c1 : Nat) (k5 : Nat) (a5_2 : Int64) (v67_0 : Int32) : (Int64) := (fX8_together_B86 σ c1 a5_2 (if v67_0 = 0 then (0 : Int64) else (fX8_counts σ k5).toInt64))
def fX8_together_S5 (σ : MT) (c1 : Nat) (k5 : Nat) (a5_2 : Int64) : (Int64) := (fX8_together_B67 σ c1 k5 a5_2 (if (nI (mK σ 25 k5)) = (nI (mK σ 25 c1)) then (if (nI (mK σ 21 k5)) = (nI (mK σ 21 c1)) then (if (nI (mK σ 22 k5)) = (nI (mK σ 22 c1)) then (nI 1) else (nI 0)) else (nI 0)) else (nI 0)))
def fX8_together_L5 (σ : MT) (c1 : Nat) : Nat → Nat → Int64 → Int64
  | 0, k5, a5_2 => (fX8_together_B135 σ c1 a5_2 (if (fX8_ruleOf σ (mK σ 22 c1) ((mK σ 23 c1) / 100)) = (-1) then (10000000 : Int64) else (mI σ 16 (tn (fX8_ruleOf σ (mK σ 22 c1) (mK σ 23 c1 / 100)))).toInt64))
  | n5 + 1, k5, a5_2 => lseq (fX8_together_S5 σ c1 k5 a5_2) (fun q => fX8_together_L5 σ c1 n5 (k5 + 1) q)
def fX8_together (σ : MT) (c1 : Nat) : Int64 := (fX8_together_L5 σ c1 (mN σ 20) 0 (0 : Int64))
set_option maxHeartbeats 4000000 in
set_option maxRecDepth 100000 in
theorem mX8_together (l : Launch) (lo : Nat) (D : va_G) (E : Nat → ClassId) (h : XW) (σ : MT) (th : Int32) (r : Nat) (ar : Nat → Nat) (hR : RM E σ th r ar h) (hW : MW σ) (c1 : Nat) (hc : c1 < mN σ 20) : Met l yX8_together wsX8_together ({ frames := 2, cells := 0, slots := 0, locals := 47 } : Room) (xP lo D E h [.ref r, .int (nI c1)]) (xR (some (.long (fX8_together σ c1)))) 0 0 (fun _ => False) := by
  obtain ⟨G, hG⟩ : ∃ G, fX8_together σ c1 = G := ⟨_, rfl⟩
  rw [hG]
  unfold fX8_together at hG
  refine Met.ofW (cc := cX8_together) (maxL := 9) (ret := (some .long)) (by decide) rfl ?_
  intro p e s m args below meth c s₁ B hml hv
  obtain ⟨rfl, I⟩ := hv
  have hx := B.exec
  have hb := B.bytes
  have hr := B.returns
  have hts := atoms_spec (ws := wsX8_together) B.pre
  have hown : s.vm.findClass RX8 = some m.cls := findClass_of_methodNamed B.named
  have hlocks := B.notSynchronized
  have hl := lv_entry ([.ref r, .int (nI c1)] : List Value) (n := 9) (Nat.le_of_ble_eq_true rfl)
  rw [lg_entry_eq]
  generalize (lg_sl ([.ref r, .int (nI c1)] : List Value) ++ List.replicate (9 - (lg_sl ([.ref r, .int (nI c1)] : List Value)).length) Slot.unset).toArray = ls at hl ⊢
  have hl : lv_has ls 9 [(0, .ref r), (1, .int (nI c1))] := hl
  have hin8 : ∀ w ∈ u_ws RX8 TX8 37, w ∈ wsX8_together := fun _ h => List.mem_cons_of_mem _ (List.mem_append_right _ (h))
  have hW0 := hW
  obtain ⟨⟨w1, w2, w3, w4, w5, w6, w7⟩, w9, w12, w21, w22, w23, w25, w31, z26, z27, z28, z36⟩ := id hW
  refine lv_lconst (v := (0 : Int64)) hx hb dX8_together_0 rfl ?_
  refine lv_lstore_n (lv' := [(2, .long (0 : Int64)), (0, .ref r), (1, .int (nI c1))]) hx hb dX8_together_1 rfl hl (by decide) rfl (fun ls hl => ?_)
  refine lv_iconst (v := (nI 0)) hx hb dX8_together_2 (by decide) ?_
  refine lv_istore (lv' := [(4, .int (nI 0)), (2, .long (0 : Int64)), (0, .ref r), (1, .int (nI c1))]) hx hb dX8_together_3 hl (by decide) rfl (fun ls hl => ?_)
  have L5 : ∀ (n5 : Nat) (k5 : Nat) (a5_2 : Int64), k5 + n5 = mN σ 20 → fX8_together_L5 σ c1 n5 k5 a5_2 = G → ∀ ls : Array Slot, lv_has ls 9 [(0, .ref r), (1, .int (nI c1)), (2, .long a5_2), (4, .int (nI k5))] → W p l e (headSpec wsX8_together ({ frames := 2, cells := 0, slots := 0, locals := 47 } : Room)).room s m ([.ref r, .int (nI c1)] : List Value).toArray below meth c s.heap [] 0 0 (MQ below (xR (some (.long G))) ([.ref r, .int (nI c1)] : List Value).toArray s 0 0 (fun _ => False)) (F0 m 5 ls []) := by
    intro n5
    induction n5 with
    | zero =>
      intro k5 a5_2 hkn hG ls hl
      have hkN : k5 = mN σ 20 := by omega
      have hG : (fX8_together_B135 σ c1 a5_2 (if (fX8_ruleOf σ (mK σ 22 c1) ((mK σ 23 c1) / 100)) = (-1) then (10000000 : Int64) else (mI σ 16 (tn (fX8_ruleOf σ (mK σ 22 c1) (mK σ 23 c1 / 100)))).toInt64)) = G := hG
      refine lv_iload hx hb dX8_together_5 (lv_at hl 3 rfl) ?_
      refine lv_aload_n hx hb dX8_together_7 rfl (lv_at hl 0 rfl) ?_
      refine xget (C := RX8) (T := TX8) (N := 37) 20 hx hb hts hin8 hown I hR.1 rfl (by decide) (List.mem_of_getElem? (i := 1) rfl) rfl rfl dX8_together_8 ?_
      refine lv_icmp_ge (tgt := 94) hx hb dX8_together_11 (by decide) (fun _ => ?_) (fun q => absurd (nI_le (Nat.le_of_eq hkN.symm) (by omega)) q)
      refine lv_aload_n hx hb dX8_together_94 rfl (lv_at hl 0 rfl) ?_
      refine lv_aload_n hx hb dX8_together_95 rfl (lv_at hl 0 rfl) ?_
      refine xget (C := RX8) (T := TX8) (N := 37) 22 hx hb hts hin8 hown I hR.1 rfl (by decide) (List.mem_of_getElem? (i := 4) rfl) rfl rfl dX8_together_96 ?_
      refine lv_iload_n hx hb dX8_together_99 rfl (lv_at hl 1 rfl) ?_
      refine xiald (i := c1) (n := 60) hx hb I (hR.2.2.1 22 60 (by decide)) (by omega) (by decide) dX8_together_100 ?_
      have b100 := w22 c1 (by omega)
      refine lv_aload_n hx hb dX8_together_101 rfl (lv_at hl 0 rfl) ?_
      refine xget (C := RX8) (T := TX8) (N := 37) 23 hx hb hts hin8 hown I hR.1 rfl (by decide) (List.mem_of_getElem? (i := 5) rfl) rfl rfl dX8_together_102 ?_
      refine lv_iload_n hx hb dX8_together_105 rfl (lv_at hl 1 rfl) ?_
      refine xiald (i := c1) (n := 60) hx hb I (hR.2.2.1 23 60 (by decide)) (by omega) (by decide) dX8_together_106 ?_
      have b106 := w23 c1 (by omega)
      refine lv_bipush (v := (nI 100)) hx hb dX8_together_107 (by decide) ?_
      refine lv_idiv hx hb dX8_together_109 (by decide) ?_
      refine xtop (y := .int (nI ((mK σ 23 c1) / 100))) (congrArg Value.int (pk_div (by omega) (by decide) (by decide))) ?_
      refine xcvR (As := [.int (nI (mK σ 22 c1)), .int (nI ((mK σ 23 c1) / 100))]) (rest := []) (v := some (.int (fX8_ruleOf σ (mK σ 22 c1) ((mK σ 23 c1) / 100)))) ⟨hx, hb, hml, hown, hts⟩ (mX8_ruleOf l lo D E h σ th r ar hR hW (mK σ 22 c1) ((mK σ 23 c1) / 100)  (by first | assumption | omega) (by first | assumption | omega)) (cwV 2 hts gX8_together_X8_ruleOf rfl rfl rfl (by decide +kernel) ⟨Nat.le_of_ble_eq_true rfl, Nat.le_of_ble_eq_true rfl⟩) I hR.1 rfl rfl hl.1 rfl (Nat.le_of_ble_eq_true rfl) dX8_together_110 ⟨Nat.le_of_ble_eq_true rfl, Nat.le_of_ble_eq_true rfl⟩ ?_
      refine W.eq (g2 := F0 m 113 ls [.int (fX8_ruleOf σ (mK σ 22 c1) ((mK σ 23 c1) / 100))]) rfl ?_
      refine lv_istore (lv' := [(4, .int (fX8_ruleOf σ (mK σ 22 c1) ((mK σ 23 c1) / 100))), (0, .ref r), (1, .int (nI c1)), (2, .long a5_2)]) hx hb dX8_together_113 hl (by decide) rfl (fun ls hl => ?_)
      refine lv_iload hx hb dX8_together_115 (lv_at hl 0 rfl) ?_
      refine lv_iconst (v := (-1)) hx hb dX8_together_117 (by decide) ?_
      have B135 : ∀ (v135_0 : Int64), fX8_together_B135 σ c1 a5_2 v135_0 = G → ∀ ls : Array Slot, lv_has ls 9 [(0, .ref r), (2, .long a5_2), (4, .int (fX8_ruleOf σ (mK σ 22 c1) ((mK σ 23 c1) / 100)))] → W p l e (headSpec wsX8_together ({ frames := 2, cells := 0, slots := 0, locals := 47 } : Room)).room s m ([.ref r, .int (nI c1)] : List Value).toArray below meth c s.heap [] 0 0 (MQ below (xR (some (.long G))) ([.ref r, .int (nI c1)] : List Value).toArray s 0 0 (fun _ => False)) (F0 m 135 ls [.long v135_0]) := by
        intro v135_0 hG ls hl
        unfold fX8_together_B135 at hG
        refine lv_lstore (lv' := [(5, .long v135_0), (0, .ref r), (2, .long a5_2), (4, .int (fX8_ruleOf σ (mK σ 22 c1) ((mK σ 23 c1) / 100)))]) hx hb dX8_together_135 hl (by decide) rfl (fun ls hl => ?_)
        refine lv_lload_n hx hb dX8_together_137 rfl (lv_at hl 2 rfl) ?_
        refine lv_lload hx hb dX8_together_138 (lv_at hl 0 rfl) ?_
        have B150 : ∀ (v150_0 : Int64), fX8_together_B150 σ c1 v150_0 = G → ∀ ls : Array Slot, lv_has ls 9 [(0, .ref r), (4, .int (fX8_ruleOf σ (mK σ 22 c1) ((mK σ 23 c1) / 100)))] → W p l e (headSpec wsX8_together ({ frames := 2, cells := 0, slots := 0, locals := 47 } : Room)).room s m ([.ref r, .int (nI c1)] : List Value).toArray below meth c s.heap [] 0 0 (MQ below (xR (some (.long G))) ([.ref r, .int (nI c1)] : List Value).toArray s 0 0 (fun _ => False)) (F0 m 150 ls [.long v150_0]) := by
          intro v150_0 hG ls hl
          unfold fX8_together_B150 at hG
          refine lv_iload hx hb dX8_together_150 (lv_at hl 1 rfl) ?_
          refine lv_iconst (v := (-1)) hx hb dX8_together_152 (by decide) ?_
          have B167 : ∀ (v167_0 : Int32), fX8_together_B167 σ c1 v150_0 v167_0 = G → ∀ ls : Array Slot, lv_has ls 9 [] → W p l e (headSpec wsX8_together ({ frames := 2, cells := 0, slots := 0, locals := 47 } : Room)).room s m ([.ref r, .int (nI c1)] : List Value).toArray below meth c s.heap [] 0 0 (MQ below (xR (some (.long G))) ([.ref r, .int (nI c1)] : List Value).toArray s 0 0 (fun _ => False)) (F0 m 167 ls [.int v167_0, .long v150_0]) := by
            intro v167_0 hG ls hl
            unfold fX8_together_B167 at hG
            refine lv_i2l (v := v167_0.toInt64) hx hb dX8_together_167 rfl ?_
            refine lv_lsub hx hb dX8_together_168 ?_
            refine lv_lstore (lv' := [(7, .long (v150_0 - v167_0.toInt64))]) hx hb dX8_together_169 hl (by decide) rfl (fun ls hl => ?_)
            refine lv_lload hx hb dX8_together_171 (lv_at hl 0 rfl) ?_
            refine lv_lconst (v := (0 : Int64)) hx hb dX8_together_173 rfl ?_
            refine xl_ge (tgt := 182) hx hb dX8_together_174 dX8_together_175 (by decide) (fun c_174 => ?_) (fun c_174 => ?_)
            · skip
              rw [if_pos c_174] at hG
              refine lv_lload hx hb dX8_together_182 (lv_at hl 0 rfl) ?_
              exact xrlR hx hb hr hlocks dX8_together_184 hG
            · skip
              rw [if_neg c_174] at hG
              refine lv_lconst (v := (0 : Int64)) hx hb dX8_together_178 rfl ?_
              refine lv_goto (tgt := 184) hx hb dX8_together_179 (by decide) ?_
              exact xrlR hx hb hr hlocks dX8_together_184 hG
          refine lv_icmp_ne (tgt := 160) hx hb dX8_together_153 (by decide) (fun c_153 => ?_) (fun c_153 => ?_)
          · skip
            rw [if_neg c_153] at hG
            refine lv_aload_n hx hb dX8_together_160 rfl (lv_at hl 0 rfl) ?_
            refine xget (C := RX8) (T := TX8) (N := 37) 15 hx hb hts hin8 hown I hR.1 rfl (by decide) (List.mem_of_getElem? (i := 8) rfl) rfl rfl dX8_together_161 ?_
            refine lv_iload hx hb dX8_together_164 (lv_at hl 1 rfl) ?_
            refine xtop (y := .int (nI (tn (fX8_ruleOf σ (mK σ 22 c1) (mK σ 23 c1 / 100))))) (congrArg Value.int (ruleOf_ok (by omega) (by omega) c_153).1) ?_
            refine xiald (i := (tn (fX8_ruleOf σ (mK σ 22 c1) (mK σ 23 c1 / 100)))) (n := 80) hx hb I (hR.2.1 15 80 (by decide)) (ruleOf_ok (by omega) (by omega) c_153).2 (by decide) dX8_together_166 ?_
            exact B167 (mI σ 15 (tn (fX8_ruleOf σ (mK σ 22 c1) (mK σ 23 c1 / 100)))) hG ls (lv_sub hl [] rfl)
          · skip
            rw [if_pos c_153] at hG
            refine lv_iconst (v := (nI 0)) hx hb dX8_together_156 (by decide) ?_
            refine lv_goto (tgt := 167) hx hb dX8_together_157 (by decide) ?_
            exact B167 (nI 0) hG ls (lv_sub hl [] rfl)
        refine xl_ge (tgt := 148) hx hb dX8_together_140 dX8_together_141 (by decide) (fun c_140 => ?_) (fun c_140 => ?_)
        · skip
          rw [if_pos c_140] at hG
          refine lv_lload hx hb dX8_together_148 (lv_at hl 0 rfl) ?_
          exact B150 v135_0 hG ls (lv_sub hl [1, 3] rfl)
        · skip
          rw [if_neg c_140] at hG
          refine lv_lload_n hx hb dX8_together_144 rfl (lv_at hl 2 rfl) ?_
          refine lv_goto (tgt := 150) hx hb dX8_together_145 (by decide) ?_
          exact B150 a5_2 hG ls (lv_sub hl [1, 3] rfl)
      refine lv_icmp_ne (tgt := 127) hx hb dX8_together_118 (by decide) (fun c_118 => ?_) (fun c_118 => ?_)
      · skip
        rw [if_neg c_118] at hG
        refine lv_aload_n hx hb dX8_together_127 rfl (lv_at hl 1 rfl) ?_
        refine xget (C := RX8) (T := TX8) (N := 37) 16 hx hb hts hin8 hown I hR.1 rfl (by decide) (List.mem_of_getElem? (i := 7) rfl) rfl rfl dX8_together_128 ?_
        refine lv_iload hx hb dX8_together_131 (lv_at hl 0 rfl) ?_
        refine xtop (y := .int (nI (tn (fX8_ruleOf σ (mK σ 22 c1) (mK σ 23 c1 / 100))))) (congrArg Value.int (ruleOf_ok (by omega) (by omega) c_118).1) ?_
        refine xiald (i := (tn (fX8_ruleOf σ (mK σ 22 c1) (mK σ 23 c1 / 100)))) (n := 80) hx hb I (hR.2.1 16 80 (by decide)) (ruleOf_ok (by omega) (by omega) c_118).2 (by decide) dX8_together_133 ?_
        refine lv_i2l (v := (mI σ 16 (tn (fX8_ruleOf σ (mK σ 22 c1) (mK σ 23 c1 / 100)))).toInt64) hx hb dX8_together_134 rfl ?_
        exact B135 ((mI σ 16 (tn (fX8_ruleOf σ (mK σ 22 c1) (mK σ 23 c1 / 100)))).toInt64) hG ls (lv_sub hl [1, 3, 0] rfl)
      · skip
        rw [if_pos c_118] at hG
        refine lv_ldc2 (v := (10000000 : Int64)) hx hb hown (hts _ (List.mem_of_getElem? (i := 6) rfl)) dX8_together_121 ?_
        refine lv_goto (tgt := 135) hx hb dX8_together_124 (by decide) ?_
        exact B135 (10000000 : Int64) hG ls (lv_sub hl [1, 3, 0] rfl)
    | succ n5 ih =>
      intro k5 a5_2 hkn hG ls hl
      have hk : k5 < mN σ 20 := by omega
      have hG : lseq ((fX8_together_B67 σ c1 k5 a5_2 (if (nI (mK σ 25 k5)) = (nI (mK σ 25 c1)) then (if (nI (mK σ 21 k5)) = (nI (mK σ 21 c1)) then (if (nI (mK σ 22 k5)) = (nI (mK σ 22 c1)) then (nI 1) else (nI 0)) else (nI 0)) else (nI 0)))) (fun q => fX8_together_L5 σ c1 n5 (k5 + 1) q) = G := hG
      refine lv_iload hx hb dX8_together_5 (lv_at hl 3 rfl) ?_
      refine lv_aload_n hx hb dX8_together_7 rfl (lv_at hl 0 rfl) ?_
      refine xget (C := RX8) (T := TX8) (N := 37) 20 hx hb hts hin8 hown I hR.1 rfl (by decide) (List.mem_of_getElem? (i := 1) rfl) rfl rfl dX8_together_8 ?_
      refine lv_icmp_ge (tgt := 94) hx hb dX8_together_11 (by decide) (fun q => absurd q (nI_ge hk (by omega))) (fun _ => ?_)
      refine lv_aload_n hx hb dX8_together_14 rfl (lv_at hl 0 rfl) ?_
      refine xget (C := RX8) (T := TX8) (N := 37) 25 hx hb hts hin8 hown I hR.1 rfl (by decide) (List.mem_of_getElem? (i := 2) rfl) rfl rfl dX8_together_15 ?_
      refine lv_iload hx hb dX8_together_18 (lv_at hl 3 rfl) ?_
      refine xiald (i := k5) (n := 60) hx hb I (hR.2.2.1 25 60 (by decide)) (by omega) (by decide) dX8_together_20 ?_
      have b20 := w25 k5 (by omega)
      refine lv_aload_n hx hb dX8_together_21 rfl (lv_at hl 0 rfl) ?_
      refine xget (C := RX8) (T := TX8) (N := 37) 25 hx hb hts hin8 hown I hR.1 rfl (by decide) (List.mem_of_getElem? (i := 2) rfl) rfl rfl dX8_together_22 ?_
      refine lv_iload_n hx hb dX8_together_25 rfl (lv_at hl 1 rfl) ?_
      refine xiald (i := c1) (n := 60) hx hb I (hR.2.2.1 25 60 (by decide)) (by omega) (by decide) dX8_together_26 ?_
      have b26 := w25 c1 (by omega)
      have B67 : ∀ (v67_0 : Int32), (v67_0 = 0 ∨ v67_0 = 1) → lseq (fX8_together_B67 σ c1 k5 a5_2 v67_0) (fun q => fX8_together_L5 σ c1 n5 (k5 + 1) q) = G → ∀ ls : Array Slot, lv_has ls 9 [(0, .ref r), (1, .int (nI c1)), (2, .long a5_2), (4, .int (nI k5))] → W p l e (headSpec wsX8_together ({ frames := 2, cells := 0, slots := 0, locals := 47 } : Room)).room s m ([.ref r, .int (nI c1)] : List Value).toArray below meth c s.heap [] 0 0 (MQ below (xR (some (.long G))) ([.ref r, .int (nI c1)] : List Value).toArray s 0 0 (fun _ => False)) (F0 m 67 ls [.int v67_0]) := by
        intro v67_0 zv67_0 hG ls hl
        unfold fX8_together_B67 at hG
        refine lv_istore (lv' := [(5, .int v67_0), (0, .ref r), (1, .int (nI c1)), (2, .long a5_2), (4, .int (nI k5))]) hx hb dX8_together_67 hl (by decide) rfl (fun ls hl => ?_)
        refine lv_lload_n hx hb dX8_together_69 rfl (lv_at hl 3 rfl) ?_
        refine lv_iload hx hb dX8_together_70 (lv_at hl 0 rfl) ?_
        have B86 : ∀ (v86_0 : Int64), lseq (fX8_together_B86 σ c1 a5_2 v86_0) (fun q => fX8_together_L5 σ c1 n5 (k5 + 1) q) = G → ∀ ls : Array Slot, lv_has ls 9 [(0, .ref r), (1, .int (nI c1)), (4, .int (nI k5))] → W p l e (headSpec wsX8_together ({ frames := 2, cells := 0, slots := 0, locals := 47 } : Room)).room s m ([.ref r, .int (nI c1)] : List Value).toArray below meth c s.heap [] 0 0 (MQ below (xR (some (.long G))) ([.ref r, .int (nI c1)] : List Value).toArray s 0 0 (fun _ => False)) (F0 m 86 ls [.long v86_0, .long a5_2]) := by
          intro v86_0 hG ls hl
          unfold fX8_together_B86 at hG
          refine lv_ladd hx hb dX8_together_86 ?_
          refine lv_lstore_n (lv' := [(2, .long (a5_2 + v86_0)), (0, .ref r), (1, .int (nI c1)), (4, .int (nI k5))]) hx hb dX8_together_87 rfl hl (by decide) rfl (fun ls hl => ?_)
          refine lv_iinc (v := (nI (k5 + 1))) (lv' := [(4, .int (nI (k5 + 1))), (2, .long (a5_2 + v86_0)), (0, .ref r), (1, .int (nI c1))]) hx hb dX8_together_88 hl (k := 3) rfl (nI_succ k5).symm (by decide) rfl (fun ls hl => ?_)
          refine lv_goto (tgt := 5) hx hb dX8_together_91 (by decide) ?_
          exact ih (k5 + 1) (a5_2 + v86_0) (by omega) hG ls (lv_sub hl [2, 3, 1, 0] rfl)
        refine lv_if_eq (tgt := 85) hx hb dX8_together_72 (by decide) (fun c_72 => ?_) (fun c_72 => ?_)
        · skip
          rw [if_pos c_72] at hG
          refine lv_lconst (v := (0 : Int64)) hx hb dX8_together_85 rfl ?_
          exact B86 (0 : Int64) hG ls (lv_sub hl [1, 2, 4] rfl)
        · skip
          rw [if_neg c_72] at hG
          refine lv_aload_n hx hb dX8_together_75 rfl (lv_at hl 1 rfl) ?_
          refine lv_iload hx hb dX8_together_76 (lv_at hl 4 rfl) ?_
          refine xcvR (As := [.int (nI k5)]) (rest := [.long a5_2]) (v := some (.int (fX8_counts σ k5))) ⟨hx, hb, hml, hown, hts⟩ (mX8_counts l lo D E h σ th r ar hR hW k5  (by first | assumption | omega)) (cwV 1 hts gX8_together_X8_counts rfl rfl rfl (by decide +kernel) ⟨Nat.le_of_ble_eq_true rfl, Nat.le_of_ble_eq_true rfl⟩) I hR.1 rfl rfl hl.1 rfl (Nat.le_of_ble_eq_true rfl) dX8_together_78 ⟨Nat.le_of_ble_eq_true rfl, Nat.le_of_ble_eq_true rfl⟩ ?_
          refine W.eq (g2 := F0 m 81 ls [.int (fX8_counts σ k5), .long a5_2]) rfl ?_
          refine lv_i2l (v := (fX8_counts σ k5).toInt64) hx hb dX8_together_81 rfl ?_
          refine lv_goto (tgt := 86) hx hb dX8_together_82 (by decide) ?_
          exact B86 ((fX8_counts σ k5).toInt64) hG ls (lv_sub hl [1, 2, 4] rfl)
      refine lv_icmp_ne (tgt := 66) hx hb dX8_together_27 (by decide) (fun c_27 => ?_) (fun c_27 => ?_)
      · skip
        rw [if_neg c_27] at hG
        refine lv_iconst (v := (nI 0)) hx hb dX8_together_66 (by decide) ?_
        exact B67 (nI 0) (Or.inl rfl) hG ls (lv_sub hl [0, 1, 2, 3] rfl)
      · skip
        rw [if_pos c_27] at hG
        refine lv_aload_n hx hb dX8_together_30 rfl (lv_at hl 0 rfl) ?_
        refine xget (C := RX8) (T := TX8) (N := 37) 21 hx hb hts hin8 hown I hR.1 rfl (by decide) (List.mem_of_getElem? (i := 3) rfl) rfl rfl dX8_together_31 ?_
        refine lv_iload hx hb dX8_together_34 (lv_at hl 3 rfl) ?_
        refine xiald (i := k5) (n := 60) hx hb I (hR.2.2.1 21 60 (by decide)) (by omega) (by decide) dX8_together_36 ?_
        have b36 := w21 k5 (by omega)
        refine lv_aload_n hx hb dX8_together_37 rfl (lv_at hl 0 rfl) ?_
        refine xget (C := RX8) (T := TX8) (N := 37) 21 hx hb hts hin8 hown I hR.1 rfl (by decide) (List.mem_of_getElem? (i := 3) rfl) rfl rfl dX8_together_38 ?_
        refine lv_iload_n hx hb dX8_together_41 rfl (lv_at hl 1 rfl) ?_
        refine xiald (i := c1) (n := 60) hx hb I (hR.2.2.1 21 60 (by decide)) (by omega) (by decide) dX8_together_42 ?_
        have b42 := w21 c1 (by omega)
        refine lv_icmp_ne (tgt := 66) hx hb dX8_together_43 (by decide) (fun c_43 => ?_) (fun c_43 => ?_)
        · skip
          rw [if_neg c_43] at hG
          refine lv_iconst (v := (nI 0)) hx hb dX8_together_66 (by decide) ?_
          exact B67 (nI 0) (Or.inl rfl) hG ls (lv_sub hl [0, 1, 2, 3] rfl)
        · skip
          rw [if_pos c_43] at hG
          refine lv_aload_n hx hb dX8_together_46 rfl (lv_at hl 0 rfl) ?_
          refine xget (C := RX8) (T := TX8) (N := 37) 22 hx hb hts hin8 hown I hR.1 rfl (by decide) (List.mem_of_getElem? (i := 4) rfl) rfl rfl dX8_together_47 ?_
          refine lv_iload hx hb dX8_together_50 (lv_at hl 3 rfl) ?_
          refine xiald (i := k5) (n := 60) hx hb I (hR.2.2.1 22 60 (by decide)) (by omega) (by decide) dX8_together_52 ?_
          have b52 := w22 k5 (by omega)
          refine lv_aload_n hx hb dX8_together_53 rfl (lv_at hl 0 rfl) ?_
          refine xget (C := RX8) (T := TX8) (N := 37) 22 hx hb hts hin8 hown I hR.1 rfl (by decide) (List.mem_of_getElem? (i := 4) rfl) rfl rfl dX8_together_54 ?_
          refine lv_iload_n hx hb dX8_together_57 rfl (lv_at hl 1 rfl) ?_
          refine xiald (i := c1) (n := 60) hx hb I (hR.2.2.1 22 60 (by decide)) (by omega) (by decide) dX8_together_58 ?_
          have b58 := w22 c1 (by omega)
          refine lv_icmp_ne (tgt := 66) hx hb dX8_together_59 (by decide) (fun c_59 => ?_) (fun c_59 => ?_)
          · skip
            rw [if_neg c_59] at hG
            refine lv_iconst (v := (nI 0)) hx hb dX8_together_66 (by decide) ?_
            exact B67 (nI 0) (Or.inl rfl) hG ls (lv_sub hl [0, 1, 2, 3] rfl)
          · skip
            rw [if_pos c_59] at hG
            refine lv_iconst (v := (nI 1)) hx hb dX8_together_62 (by decide) ?_
            refine lv_goto (tgt := 67) hx hb dX8_together_63 (by decide) ?_
            exact B67 (nI 1) (Or.inr rfl) hG ls (lv_sub hl [0, 1, 2, 3] rfl)
  exact L5 (mN σ 20) 0 (0 : Int64) (by omega) hG ls (lv_sub hl [2, 3, 1, 0] rfl)

def fX8_costOf_B45 (σ : MT) (e1 : Int32) (a5_2 : Int64) (v45_0 : Int64) : (Int64) := (a5_2 + v45_0)
def fX8_costOf_S5 (σ : MT) (e1 : Int32) (k5 : Nat) (a5_2 : Int64) : (Int64) := (fX8_costOf_B45 σ e1 a5_2 (if (nI (mK σ 25 k5)) = e1 then (if (fX8_isFirst σ k5) = 0 then (0 : Int64) else (fX8_together σ k5)) else (0 : Int64)))
def fX8_costOf_L5 (σ : MT) (e1 : Int32) : Nat → Nat → Int64 → Int64
  | 0, k5, a5_2 => a5_2
  | n5 + 1, k5, a5_2 => lseq (fX8_costOf_S5 σ e1 k5 a5_2) (fun q => fX8_costOf_L5 σ e1 n5 (k5 + 1) q)
def fX8_costOf (σ : MT) (e1 : Int32) : Int64 := (fX8_costOf_L5 σ e1 (mN σ 20) 0 (0 : Int64))
set_option maxHeartbeats 4000000 in
set_option maxRecDepth 100000 in
theorem mX8_costOf (l : Launch) (lo : Nat) (D : va_G) (E : Nat → ClassId) (h : XW) (σ : MT) (th : Int32) (r : Nat) (ar : Nat → Nat) (hR : RM E σ th r ar h) (hW : MW σ) (e1 : Int32) : Met l yX8_costOf wsX8_costOf ({ frames := 3, cells := 0, slots := 0, locals := 75 } : Room) (xP lo D E h [.ref r, .int e1]) (xR (some (.long (fX8_costOf σ e1)))) 0 0 (fun _ => False) := by
  obtain ⟨G, hG⟩ : ∃ G, fX8_costOf σ e1 = G := ⟨_, rfl⟩
  rw [hG]
  unfold fX8_costOf at hG
  refine Met.ofW (cc := cX8_costOf) (maxL := 5) (ret := (some .long)) (by decide) rfl ?_
  intro p e s m args below meth c s₁ B hml hv
  obtain ⟨rfl, I⟩ := hv
  have hx := B.exec
  have hb := B.bytes
  have hr := B.returns
  have hts := atoms_spec (ws := wsX8_costOf) B.pre
  have hown : s.vm.findClass RX8 = some m.cls := findClass_of_methodNamed B.named
  have hlocks := B.notSynchronized
  have hl := lv_entry ([.ref r, .int e1] : List Value) (n := 5) (Nat.le_of_ble_eq_true rfl)
  rw [lg_entry_eq]
  generalize (lg_sl ([.ref r, .int e1] : List Value) ++ List.replicate (5 - (lg_sl ([.ref r, .int e1] : List Value)).length) Slot.unset).toArray = ls at hl ⊢
  have hl : lv_has ls 5 [(0, .ref r), (1, .int e1)] := hl
  have hin8 : ∀ w ∈ u_ws RX8 TX8 37, w ∈ wsX8_costOf := fun _ h => List.mem_cons_of_mem _ (List.mem_append_right _ (h))
  have hW0 := hW
  obtain ⟨⟨w1, w2, w3, w4, w5, w6, w7⟩, w9, w12, w21, w22, w23, w25, w31, z26, z27, z28, z36⟩ := id hW
  refine lv_lconst (v := (0 : Int64)) hx hb dX8_costOf_0 rfl ?_
  refine lv_lstore_n (lv' := [(2, .long (0 : Int64)), (0, .ref r), (1, .int e1)]) hx hb dX8_costOf_1 rfl hl (by decide) rfl (fun ls hl => ?_)
  refine lv_iconst (v := (nI 0)) hx hb dX8_costOf_2 (by decide) ?_
  refine lv_istore (lv' := [(4, .int (nI 0)), (2, .long (0 : Int64)), (0, .ref r), (1, .int e1)]) hx hb dX8_costOf_3 hl (by decide) rfl (fun ls hl => ?_)
  have L5 : ∀ (n5 : Nat) (k5 : Nat) (a5_2 : Int64), k5 + n5 = mN σ 20 → fX8_costOf_L5 σ e1 n5 k5 a5_2 = G → ∀ ls : Array Slot, lv_has ls 5 [(0, .ref r), (1, .int e1), (2, .long a5_2), (4, .int (nI k5))] → W p l e (headSpec wsX8_costOf ({ frames := 3, cells := 0, slots := 0, locals := 75 } : Room)).room s m ([.ref r, .int e1] : List Value).toArray below meth c s.heap [] 0 0 (MQ below (xR (some (.long G))) ([.ref r, .int e1] : List Value).toArray s 0 0 (fun _ => False)) (F0 m 5 ls []) := by
    intro n5
    induction n5 with
    | zero =>
      intro k5 a5_2 hkn hG ls hl
      have hkN : k5 = mN σ 20 := by omega
      have hG : a5_2 = G := hG
      refine lv_iload hx hb dX8_costOf_5 (lv_at hl 3 rfl) ?_
      refine lv_aload_n hx hb dX8_costOf_7 rfl (lv_at hl 0 rfl) ?_
      refine xget (C := RX8) (T := TX8) (N := 37) 20 hx hb hts hin8 hown I hR.1 rfl (by decide) (List.mem_of_getElem? (i := 1) rfl) rfl rfl dX8_costOf_8 ?_
      refine lv_icmp_ge (tgt := 53) hx hb dX8_costOf_11 (by decide) (fun _ => ?_) (fun q => absurd (nI_le (Nat.le_of_eq hkN.symm) (by omega)) q)
      refine lv_lload_n hx hb dX8_costOf_53 rfl (lv_at hl 2 rfl) ?_
      exact xrlR hx hb hr hlocks dX8_costOf_54 hG
    | succ n5 ih =>
      intro k5 a5_2 hkn hG ls hl
      have hk : k5 < mN σ 20 := by omega
      have hG : lseq ((fX8_costOf_B45 σ e1 a5_2 (if (nI (mK σ 25 k5)) = e1 then (if (fX8_isFirst σ k5) = 0 then (0 : Int64) else (fX8_together σ k5)) else (0 : Int64)))) (fun q => fX8_costOf_L5 σ e1 n5 (k5 + 1) q) = G := hG
      refine lv_iload hx hb dX8_costOf_5 (lv_at hl 3 rfl) ?_
      refine lv_aload_n hx hb dX8_costOf_7 rfl (lv_at hl 0 rfl) ?_
      refine xget (C := RX8) (T := TX8) (N := 37) 20 hx hb hts hin8 hown I hR.1 rfl (by decide) (List.mem_of_getElem? (i := 1) rfl) rfl rfl dX8_costOf_8 ?_
      refine lv_icmp_ge (tgt := 53) hx hb dX8_costOf_11 (by decide) (fun q => absurd q (nI_ge hk (by omega))) (fun _ => ?_)
      refine lv_lload_n hx hb dX8_costOf_14 rfl (lv_at hl 2 rfl) ?_
      refine lv_aload_n hx hb dX8_costOf_15 rfl (lv_at hl 0 rfl) ?_
      refine xget (C := RX8) (T := TX8) (N := 37) 25 hx hb hts hin8 hown I hR.1 rfl (by decide) (List.mem_of_getElem? (i := 2) rfl) rfl rfl dX8_costOf_16 ?_
      refine lv_iload hx hb dX8_costOf_19 (lv_at hl 3 rfl) ?_
      refine xiald (i := k5) (n := 60) hx hb I (hR.2.2.1 25 60 (by decide)) (by omega) (by decide) dX8_costOf_21 ?_
      have b21 := w25 k5 (by omega)
      refine lv_iload_n hx hb dX8_costOf_22 rfl (lv_at hl 1 rfl) ?_
      have B45 : ∀ (v45_0 : Int64), lseq (fX8_costOf_B45 σ e1 a5_2 v45_0) (fun q => fX8_costOf_L5 σ e1 n5 (k5 + 1) q) = G → ∀ ls : Array Slot, lv_has ls 5 [(0, .ref r), (1, .int e1), (4, .int (nI k5))] → W p l e (headSpec wsX8_costOf ({ frames := 3, cells := 0, slots := 0, locals := 75 } : Room)).room s m ([.ref r, .int e1] : List Value).toArray below meth c s.heap [] 0 0 (MQ below (xR (some (.long G))) ([.ref r, .int e1] : List Value).toArray s 0 0 (fun _ => False)) (F0 m 45 ls [.long v45_0, .long a5_2]) := by
        intro v45_0 hG ls hl
        unfold fX8_costOf_B45 at hG
        refine lv_ladd hx hb dX8_costOf_45 ?_
        refine lv_lstore_n (lv' := [(2, .long (a5_2 + v45_0)), (0, .ref r), (1, .int e1), (4, .int (nI k5))]) hx hb dX8_costOf_46 rfl hl (by decide) rfl (fun ls hl => ?_)
        refine lv_iinc (v := (nI (k5 + 1))) (lv' := [(4, .int (nI (k5 + 1))), (2, .long (a5_2 + v45_0)), (0, .ref r), (1, .int e1)]) hx hb dX8_costOf_47 hl (k := 3) rfl (nI_succ k5).symm (by decide) rfl (fun ls hl => ?_)
        refine lv_goto (tgt := 5) hx hb dX8_costOf_50 (by decide) ?_
        exact ih (k5 + 1) (a5_2 + v45_0) (by omega) hG ls (lv_sub hl [2, 3, 1, 0] rfl)
      refine lv_icmp_ne (tgt := 44) hx hb dX8_costOf_23 (by decide) (fun c_23 => ?_) (fun c_23 => ?_)
      · skip
        rw [if_neg c_23] at hG
        refine lv_lconst (v := (0 : Int64)) hx hb dX8_costOf_44 rfl ?_
        exact B45 (0 : Int64) hG ls (lv_sub hl [0, 1, 3] rfl)
      · skip
        rw [if_pos c_23] at hG
        refine lv_aload_n hx hb dX8_costOf_26 rfl (lv_at hl 0 rfl) ?_
        refine lv_iload hx hb dX8_costOf_27 (lv_at hl 3 rfl) ?_
        refine xcvR (As := [.int (nI k5)]) (rest := [.long a5_2]) (v := some (.int (fX8_isFirst σ k5))) ⟨hx, hb, hml, hown, hts⟩ (mX8_isFirst l lo D E h σ th r ar hR hW k5  (by first | assumption | omega)) (cwV 1 hts gX8_costOf_X8_isFirst rfl rfl rfl (by decide +kernel) ⟨Nat.le_of_ble_eq_true rfl, Nat.le_of_ble_eq_true rfl⟩) I hR.1 rfl rfl hl.1 rfl (Nat.le_of_ble_eq_true rfl) dX8_costOf_29 ⟨Nat.le_of_ble_eq_true rfl, Nat.le_of_ble_eq_true rfl⟩ ?_
        refine W.eq (g2 := F0 m 32 ls [.int (fX8_isFirst σ k5), .long a5_2]) rfl ?_
        refine lv_if_eq (tgt := 44) hx hb dX8_costOf_32 (by decide) (fun c_32 => ?_) (fun c_32 => ?_)
        · skip
          rw [if_pos c_32] at hG
          refine lv_lconst (v := (0 : Int64)) hx hb dX8_costOf_44 rfl ?_
          exact B45 (0 : Int64) hG ls (lv_sub hl [0, 1, 3] rfl)
        · skip
          rw [if_neg c_32] at hG
          refine lv_aload_n hx hb dX8_costOf_35 rfl (lv_at hl 0 rfl) ?_
          refine lv_iload hx hb dX8_costOf_36 (lv_at hl 3 rfl) ?_
          refine xcvR (As := [.int (nI k5)]) (rest := [.long a5_2]) (v := some (.long (fX8_together σ k5))) ⟨hx, hb, hml, hown, hts⟩ (mX8_together l lo D E h σ th r ar hR hW k5  (by first | assumption | omega)) (cwV 1 hts gX8_costOf_X8_together rfl rfl rfl (by decide +kernel) ⟨Nat.le_of_ble_eq_true rfl, Nat.le_of_ble_eq_true rfl⟩) I hR.1 rfl rfl hl.1 rfl (Nat.le_of_ble_eq_true rfl) dX8_costOf_38 ⟨Nat.le_of_ble_eq_true rfl, Nat.le_of_ble_eq_true rfl⟩ ?_
          refine W.eq (g2 := F0 m 41 ls [.long (fX8_together σ k5), .long a5_2]) rfl ?_
          refine lv_goto (tgt := 45) hx hb dX8_costOf_41 (by decide) ?_
          exact B45 (fX8_together σ k5) hG ls (lv_sub hl [0, 1, 3] rfl)
  exact L5 (mN σ 20) 0 (0 : Int64) (by omega) hG ls (lv_sub hl [2, 3, 1, 0] rfl)

def fX8_bears_B68 (σ : MT) (e1 : Nat) (v68_0 : Int64) : Int64 := (if (fX8_costOf σ (nI e1)) ≤ (mI σ 18 ((mK σ 31 e1) / 100)).toInt64 then (((mI σ 17 ((mK σ 31 e1) / 100)).toInt64 + (((v68_0 - (mI σ 17 ((mK σ 31 e1) / 100)).toInt64) * (mI σ 19 ((mK σ 31 e1) / 100)).toInt64) / (100 : Int64))) + (0 : Int64)) else (((mI σ 17 ((mK σ 31 e1) / 100)).toInt64 + (((v68_0 - (mI σ 17 ((mK σ 31 e1) / 100)).toInt64) * (mI σ 19 ((mK σ 31 e1) / 100)).toInt64) / (100 : Int64))) + ((fX8_costOf σ (nI e1)) - (mI σ 18 ((mK σ 31 e1) / 100)).toInt64)))
def fX8_bears (σ : MT) (e1 : Nat) : Int64 := (if (mI σ 17 ((mK σ 31 e1) / 100)).toInt64 = (-1 : Int64) then (fX8_costOf σ (nI e1)) else (if (mI σ 17 ((mK σ 31 e1) / 100)).toInt64 < (fX8_costOf σ (nI e1)) then (fX8_bears_B68 σ e1 (if (mI σ 18 ((mK σ 31 e1) / 100)).toInt64 ≤ (fX8_costOf σ (nI e1)) then (mI σ 18 ((mK σ 31 e1) / 100)).toInt64 else (fX8_costOf σ (nI e1)))) else (fX8_costOf σ (nI e1))))
set_option maxHeartbeats 4000000 in
set_option maxRecDepth 100000 in
theorem mX8_bears (l : Launch) (lo : Nat) (D : va_G) (E : Nat → ClassId) (h : XW) (σ : MT) (th : Int32) (r : Nat) (ar : Nat → Nat) (hR : RM E σ th r ar h) (hW : MW σ) (e1 : Nat) (he : e1 < mN σ 30) : Met l yX8_bears wsX8_bears ({ frames := 4, cells := 0, slots := 0, locals := 99 } : Room) (xP lo D E h [.ref r, .int (nI e1)]) (xR (some (.long (fX8_bears σ e1)))) 0 0 (fun _ => False) := by
  obtain ⟨G, hG⟩ : ∃ G, fX8_bears σ e1 = G := ⟨_, rfl⟩
  rw [hG]
  unfold fX8_bears at hG
  refine Met.ofW (cc := cX8_bears) (maxL := 11) (ret := (some .long)) (by decide) rfl ?_
  intro p e s m args below meth c s₁ B hml hv
  obtain ⟨rfl, I⟩ := hv
  have hx := B.exec
  have hb := B.bytes
  have hr := B.returns
  have hts := atoms_spec (ws := wsX8_bears) B.pre
  have hown : s.vm.findClass RX8 = some m.cls := findClass_of_methodNamed B.named
  have hlocks := B.notSynchronized
  have hl := lv_entry ([.ref r, .int (nI e1)] : List Value) (n := 11) (Nat.le_of_ble_eq_true rfl)
  rw [lg_entry_eq]
  generalize (lg_sl ([.ref r, .int (nI e1)] : List Value) ++ List.replicate (11 - (lg_sl ([.ref r, .int (nI e1)] : List Value)).length) Slot.unset).toArray = ls at hl ⊢
  have hl : lv_has ls 11 [(0, .ref r), (1, .int (nI e1))] := hl
  have hin8 : ∀ w ∈ u_ws RX8 TX8 37, w ∈ wsX8_bears := fun _ h => List.mem_cons_of_mem _ (List.mem_append_right _ (h))
  have hW0 := hW
  obtain ⟨⟨w1, w2, w3, w4, w5, w6, w7⟩, w9, w12, w21, w22, w23, w25, w31, z26, z27, z28, z36⟩ := id hW
  refine lv_aload_n hx hb dX8_bears_0 rfl (lv_at hl 0 rfl) ?_
  refine lv_iload_n hx hb dX8_bears_1 rfl (lv_at hl 1 rfl) ?_
  refine xcvR (As := [.int (nI e1)]) (rest := []) (v := some (.long (fX8_costOf σ (nI e1)))) ⟨hx, hb, hml, hown, hts⟩ (mX8_costOf l lo D E h σ th r ar hR hW (nI e1)  ) (cwV 1 hts gX8_bears_X8_costOf rfl rfl rfl (by decide +kernel) ⟨Nat.le_of_ble_eq_true rfl, Nat.le_of_ble_eq_true rfl⟩) I hR.1 rfl rfl hl.1 rfl (Nat.le_of_ble_eq_true rfl) dX8_bears_2 ⟨Nat.le_of_ble_eq_true rfl, Nat.le_of_ble_eq_true rfl⟩ ?_
  refine W.eq (g2 := F0 m 5 ls [.long (fX8_costOf σ (nI e1))]) rfl ?_
  refine lv_lstore_n (lv' := [(2, .long (fX8_costOf σ (nI e1))), (0, .ref r), (1, .int (nI e1))]) hx hb dX8_bears_5 rfl hl (by decide) rfl (fun ls hl => ?_)
  refine lv_aload_n hx hb dX8_bears_6 rfl (lv_at hl 1 rfl) ?_
  refine xget (C := RX8) (T := TX8) (N := 37) 31 hx hb hts hin8 hown I hR.1 rfl (by decide) (List.mem_of_getElem? (i := 1) rfl) rfl rfl dX8_bears_7 ?_
  refine lv_iload_n hx hb dX8_bears_10 rfl (lv_at hl 2 rfl) ?_
  refine xiald (i := e1) (n := 60) hx hb I (hR.2.2.1 31 60 (by decide)) (by omega) (by decide) dX8_bears_11 ?_
  have b11 := w31 e1 (by omega)
  refine lv_bipush (v := (nI 100)) hx hb dX8_bears_12 (by decide) ?_
  refine lv_idiv hx hb dX8_bears_14 (by decide) ?_
  refine xtop (y := .int (nI ((mK σ 31 e1) / 100))) (congrArg Value.int (pk_div (by omega) (by decide) (by decide))) ?_
  refine lv_istore (lv' := [(4, .int (nI ((mK σ 31 e1) / 100))), (2, .long (fX8_costOf σ (nI e1))), (0, .ref r), (1, .int (nI e1))]) hx hb dX8_bears_15 hl (by decide) rfl (fun ls hl => ?_)
  refine lv_aload_n hx hb dX8_bears_17 rfl (lv_at hl 2 rfl) ?_
  refine xget (C := RX8) (T := TX8) (N := 37) 17 hx hb hts hin8 hown I hR.1 rfl (by decide) (List.mem_of_getElem? (i := 2) rfl) rfl rfl dX8_bears_18 ?_
  refine lv_iload hx hb dX8_bears_21 (lv_at hl 0 rfl) ?_
  refine xiald (i := ((mK σ 31 e1) / 100)) (n := 20) hx hb I (hR.2.1 17 20 (by decide)) (by omega) (by decide) dX8_bears_23 ?_
  refine lv_i2l (v := (mI σ 17 ((mK σ 31 e1) / 100)).toInt64) hx hb dX8_bears_24 rfl ?_
  refine lv_lstore (lv' := [(5, .long (mI σ 17 ((mK σ 31 e1) / 100)).toInt64), (4, .int (nI ((mK σ 31 e1) / 100))), (2, .long (fX8_costOf σ (nI e1))), (0, .ref r), (1, .int (nI e1))]) hx hb dX8_bears_25 hl (by decide) rfl (fun ls hl => ?_)
  refine lv_lload hx hb dX8_bears_27 (lv_at hl 0 rfl) ?_
  refine lv_ldc2 (v := (-1 : Int64)) hx hb hown (hts _ (List.mem_of_getElem? (i := 3) rfl)) dX8_bears_29 ?_
  refine xl_eq (tgt := 43) hx hb dX8_bears_32 dX8_bears_33 (by decide) (fun c_32 => ?_) (fun c_32 => ?_)
  · skip
    rw [if_pos c_32] at hG
    refine lv_lload_n hx hb dX8_bears_43 rfl (lv_at hl 2 rfl) ?_
    exact xrlR hx hb hr hlocks dX8_bears_44 hG
  · skip
    rw [if_neg c_32] at hG
    refine lv_lload_n hx hb dX8_bears_36 rfl (lv_at hl 2 rfl) ?_
    refine lv_lload hx hb dX8_bears_37 (lv_at hl 0 rfl) ?_
    refine xl_gt (tgt := 45) hx hb dX8_bears_39 dX8_bears_40 (by decide) (fun c_39 => ?_) (fun c_39 => ?_)
    · skip
      rw [if_pos c_39] at hG
      refine lv_aload_n hx hb dX8_bears_45 rfl (lv_at hl 3 rfl) ?_
      refine xget (C := RX8) (T := TX8) (N := 37) 18 hx hb hts hin8 hown I hR.1 rfl (by decide) (List.mem_of_getElem? (i := 4) rfl) rfl rfl dX8_bears_46 ?_
      refine lv_iload hx hb dX8_bears_49 (lv_at hl 1 rfl) ?_
      refine xiald (i := ((mK σ 31 e1) / 100)) (n := 20) hx hb I (hR.2.1 18 20 (by decide)) (by omega) (by decide) dX8_bears_51 ?_
      refine lv_i2l (v := (mI σ 18 ((mK σ 31 e1) / 100)).toInt64) hx hb dX8_bears_52 rfl ?_
      refine lv_lstore (lv' := [(7, .long (mI σ 18 ((mK σ 31 e1) / 100)).toInt64), (5, .long (mI σ 17 ((mK σ 31 e1) / 100)).toInt64), (4, .int (nI ((mK σ 31 e1) / 100))), (2, .long (fX8_costOf σ (nI e1))), (0, .ref r), (1, .int (nI e1))]) hx hb dX8_bears_53 hl (by decide) rfl (fun ls hl => ?_)
      refine lv_lload_n hx hb dX8_bears_55 rfl (lv_at hl 3 rfl) ?_
      refine lv_lload hx hb dX8_bears_56 (lv_at hl 0 rfl) ?_
      have B68 : ∀ (v68_0 : Int64), fX8_bears_B68 σ e1 v68_0 = G → ∀ ls : Array Slot, lv_has ls 11 [(0, .ref r), (2, .long (fX8_costOf σ (nI e1))), (4, .int (nI ((mK σ 31 e1) / 100))), (5, .long (mI σ 17 ((mK σ 31 e1) / 100)).toInt64), (7, .long (mI σ 18 ((mK σ 31 e1) / 100)).toInt64)] → W p l e (headSpec wsX8_bears ({ frames := 4, cells := 0, slots := 0, locals := 99 } : Room)).room s m ([.ref r, .int (nI e1)] : List Value).toArray below meth c s.heap [] 0 0 (MQ below (xR (some (.long G))) ([.ref r, .int (nI e1)] : List Value).toArray s 0 0 (fun _ => False)) (F0 m 68 ls [.long v68_0]) := by
        intro v68_0 hG ls hl
        unfold fX8_bears_B68 at hG
        refine lv_lload hx hb dX8_bears_68 (lv_at hl 3 rfl) ?_
        refine lv_lsub hx hb dX8_bears_70 ?_
        refine lv_lstore (lv' := [(9, .long (v68_0 - (mI σ 17 ((mK σ 31 e1) / 100)).toInt64)), (0, .ref r), (2, .long (fX8_costOf σ (nI e1))), (4, .int (nI ((mK σ 31 e1) / 100))), (5, .long (mI σ 17 ((mK σ 31 e1) / 100)).toInt64), (7, .long (mI σ 18 ((mK σ 31 e1) / 100)).toInt64)]) hx hb dX8_bears_71 hl (by decide) rfl (fun ls hl => ?_)
        refine lv_lload hx hb dX8_bears_73 (lv_at hl 4 rfl) ?_
        refine lv_lload hx hb dX8_bears_75 (lv_at hl 0 rfl) ?_
        refine lv_aload_n hx hb dX8_bears_77 rfl (lv_at hl 1 rfl) ?_
        refine xget (C := RX8) (T := TX8) (N := 37) 19 hx hb hts hin8 hown I hR.1 rfl (by decide) (List.mem_of_getElem? (i := 5) rfl) rfl rfl dX8_bears_78 ?_
        refine lv_iload hx hb dX8_bears_81 (lv_at hl 3 rfl) ?_
        refine xiald (i := ((mK σ 31 e1) / 100)) (n := 20) hx hb I (hR.2.1 19 20 (by decide)) (by omega) (by decide) dX8_bears_83 ?_
        refine lv_i2l (v := (mI σ 19 ((mK σ 31 e1) / 100)).toInt64) hx hb dX8_bears_84 rfl ?_
        refine lv_lmul hx hb dX8_bears_85 ?_
        refine lv_ldc2 (v := (100 : Int64)) hx hb hown (hts _ (List.mem_of_getElem? (i := 6) rfl)) dX8_bears_86 ?_
        refine lv_ldiv hx hb dX8_bears_89 (by decide) ?_
        refine lv_ladd hx hb dX8_bears_90 ?_
        refine lv_lload_n hx hb dX8_bears_91 rfl (lv_at hl 2 rfl) ?_
        refine lv_lload hx hb dX8_bears_92 (lv_at hl 5 rfl) ?_
        refine xl_le (tgt := 105) hx hb dX8_bears_94 dX8_bears_95 (by decide) (fun c_94 => ?_) (fun c_94 => ?_)
        · skip
          rw [if_pos c_94] at hG
          refine lv_lconst (v := (0 : Int64)) hx hb dX8_bears_105 rfl ?_
          refine lv_ladd hx hb dX8_bears_106 ?_
          exact xrlR hx hb hr hlocks dX8_bears_107 hG
        · skip
          rw [if_neg c_94] at hG
          refine lv_lload_n hx hb dX8_bears_98 rfl (lv_at hl 2 rfl) ?_
          refine lv_lload hx hb dX8_bears_99 (lv_at hl 5 rfl) ?_
          refine lv_lsub hx hb dX8_bears_101 ?_
          refine lv_goto (tgt := 106) hx hb dX8_bears_102 (by decide) ?_
          refine lv_ladd hx hb dX8_bears_106 ?_
          exact xrlR hx hb hr hlocks dX8_bears_107 hG
      refine xl_ge (tgt := 66) hx hb dX8_bears_58 dX8_bears_59 (by decide) (fun c_58 => ?_) (fun c_58 => ?_)
      · skip
        rw [if_pos c_58] at hG
        refine lv_lload hx hb dX8_bears_66 (lv_at hl 0 rfl) ?_
        exact B68 ((mI σ 18 ((mK σ 31 e1) / 100)).toInt64) hG ls (lv_sub hl [4, 3, 2, 1, 0] rfl)
      · skip
        rw [if_neg c_58] at hG
        refine lv_lload_n hx hb dX8_bears_62 rfl (lv_at hl 3 rfl) ?_
        refine lv_goto (tgt := 68) hx hb dX8_bears_63 (by decide) ?_
        exact B68 (fX8_costOf σ (nI e1)) hG ls (lv_sub hl [4, 3, 2, 1, 0] rfl)
    · skip
      rw [if_neg c_39] at hG
      refine lv_lload_n hx hb dX8_bears_43 rfl (lv_at hl 2 rfl) ?_
      exact xrlR hx hb hr hlocks dX8_bears_44 hG

def fX8_costIn_B39 (σ : MT) (y1 : Int32) (a5_2 : Int64) (v39_0 : Int64) : (Int64) := (a5_2 + v39_0)
def fX8_costIn_S5 (σ : MT) (y1 : Int32) (k5 : Nat) (a5_2 : Int64) : (Int64) := (fX8_costIn_B39 σ y1 a5_2 (if (nI ((mK σ 31 k5) / 100)) = y1 then (fX8_bears σ k5) else (0 : Int64)))
def fX8_costIn_L5 (σ : MT) (y1 : Int32) : Nat → Nat → Int64 → Int64
  | 0, k5, a5_2 => a5_2
  | n5 + 1, k5, a5_2 => lseq (fX8_costIn_S5 σ y1 k5 a5_2) (fun q => fX8_costIn_L5 σ y1 n5 (k5 + 1) q)
def fX8_costIn (σ : MT) (y1 : Int32) : Int64 := (fX8_costIn_L5 σ y1 (mN σ 30) 0 (0 : Int64))
set_option maxHeartbeats 4000000 in
set_option maxRecDepth 100000 in
theorem mX8_costIn (l : Launch) (lo : Nat) (D : va_G) (E : Nat → ClassId) (h : XW) (σ : MT) (th : Int32) (r : Nat) (ar : Nat → Nat) (hR : RM E σ th r ar h) (hW : MW σ) (y1 : Int32) : Met l yX8_costIn wsX8_costIn ({ frames := 5, cells := 0, slots := 0, locals := 129 } : Room) (xP lo D E h [.ref r, .int y1]) (xR (some (.long (fX8_costIn σ y1)))) 0 0 (fun _ => False) := by
  obtain ⟨G, hG⟩ : ∃ G, fX8_costIn σ y1 = G := ⟨_, rfl⟩
  rw [hG]
  unfold fX8_costIn at hG
  refine Met.ofW (cc := cX8_costIn) (maxL := 5) (ret := (some .long)) (by decide) rfl ?_
  intro p e s m args below meth c s₁ B hml hv
  obtain ⟨rfl, I⟩ := hv
  have hx := B.exec
  have hb := B.bytes
  have hr := B.returns
  have hts := atoms_spec (ws := wsX8_costIn) B.pre
  have hown : s.vm.findClass RX8 = some m.cls := findClass_of_methodNamed B.named
  have hlocks := B.notSynchronized
  have hl := lv_entry ([.ref r, .int y1] : List Value) (n := 5) (Nat.le_of_ble_eq_true rfl)
  rw [lg_entry_eq]
  generalize (lg_sl ([.ref r, .int y1] : List Value) ++ List.replicate (5 - (lg_sl ([.ref r, .int y1] : List Value)).length) Slot.unset).toArray = ls at hl ⊢
  have hl : lv_has ls 5 [(0, .ref r), (1, .int y1)] := hl
  have hin8 : ∀ w ∈ u_ws RX8 TX8 37, w ∈ wsX8_costIn := fun _ h => List.mem_cons_of_mem _ (List.mem_append_right _ (h))
  have hW0 := hW
  obtain ⟨⟨w1, w2, w3, w4, w5, w6, w7⟩, w9, w12, w21, w22, w23, w25, w31, z26, z27, z28, z36⟩ := id hW
  refine lv_lconst (v := (0 : Int64)) hx hb dX8_costIn_0 rfl ?_
  refine lv_lstore_n (lv' := [(2, .long (0 : Int64)), (0, .ref r), (1, .int y1)]) hx hb dX8_costIn_1 rfl hl (by decide) rfl (fun ls hl => ?_)
  refine lv_iconst (v := (nI 0)) hx hb dX8_costIn_2 (by decide) ?_
  refine lv_istore (lv' := [(4, .int (nI 0)), (2, .long (0 : Int64)), (0, .ref r), (1, .int y1)]) hx hb dX8_costIn_3 hl (by decide) rfl (fun ls hl => ?_)
  have L5 : ∀ (n5 : Nat) (k5 : Nat) (a5_2 : Int64), k5 + n5 = mN σ 30 → fX8_costIn_L5 σ y1 n5 k5 a5_2 = G → ∀ ls : Array Slot, lv_has ls 5 [(0, .ref r), (1, .int y1), (2, .long a5_2), (4, .int (nI k5))] → W p l e (headSpec wsX8_costIn ({ frames := 5, cells := 0, slots := 0, locals := 129 } : Room)).room s m ([.ref r, .int y1] : List Value).toArray below meth c s.heap [] 0 0 (MQ below (xR (some (.long G))) ([.ref r, .int y1] : List Value).toArray s 0 0 (fun _ => False)) (F0 m 5 ls []) := by
    intro n5
    induction n5 with
    | zero =>
      intro k5 a5_2 hkn hG ls hl
      have hkN : k5 = mN σ 30 := by omega
      have hG : a5_2 = G := hG
      refine lv_iload hx hb dX8_costIn_5 (lv_at hl 3 rfl) ?_
      refine lv_aload_n hx hb dX8_costIn_7 rfl (lv_at hl 0 rfl) ?_
      refine xget (C := RX8) (T := TX8) (N := 37) 30 hx hb hts hin8 hown I hR.1 rfl (by decide) (List.mem_of_getElem? (i := 1) rfl) rfl rfl dX8_costIn_8 ?_
      refine lv_icmp_ge (tgt := 47) hx hb dX8_costIn_11 (by decide) (fun _ => ?_) (fun q => absurd (nI_le (Nat.le_of_eq hkN.symm) (by omega)) q)
      refine lv_lload_n hx hb dX8_costIn_47 rfl (lv_at hl 2 rfl) ?_
      exact xrlR hx hb hr hlocks dX8_costIn_48 hG
    | succ n5 ih =>
      intro k5 a5_2 hkn hG ls hl
      have hk : k5 < mN σ 30 := by omega
      have hG : lseq ((fX8_costIn_B39 σ y1 a5_2 (if (nI ((mK σ 31 k5) / 100)) = y1 then (fX8_bears σ k5) else (0 : Int64)))) (fun q => fX8_costIn_L5 σ y1 n5 (k5 + 1) q) = G := hG
      refine lv_iload hx hb dX8_costIn_5 (lv_at hl 3 rfl) ?_
      refine lv_aload_n hx hb dX8_costIn_7 rfl (lv_at hl 0 rfl) ?_
      refine xget (C := RX8) (T := TX8) (N := 37) 30 hx hb hts hin8 hown I hR.1 rfl (by decide) (List.mem_of_getElem? (i := 1) rfl) rfl rfl dX8_costIn_8 ?_
      refine lv_icmp_ge (tgt := 47) hx hb dX8_costIn_11 (by decide) (fun q => absurd q (nI_ge hk (by omega))) (fun _ => ?_)
      refine lv_lload_n hx hb dX8_costIn_14 rfl (lv_at hl 2 rfl) ?_
      refine lv_aload_n hx hb dX8_costIn_15 rfl (lv_at hl 0 rfl) ?_
      refine xget (C := RX8) (T := TX8) (N := 37) 31 hx hb hts hin8 hown I hR.1 rfl (by decide) (List.mem_of_getElem? (i := 2) rfl) rfl rfl dX8_costIn_16 ?_
      refine lv_iload hx hb dX8_costIn_19 (lv_at hl 3 rfl) ?_
      refine xiald (i := k5) (n := 60) hx hb I (hR.2.2.1 31 60 (by decide)) (by omega) (by decide) dX8_costIn_21 ?_
      have b21 := w31 k5 (by omega)
      refine lv_bipush (v := (nI 100)) hx hb dX8_costIn_22 (by decide) ?_
      refine lv_idiv hx hb dX8_costIn_24 (by decide) ?_
      refine xtop (y := .int (nI ((mK σ 31 k5) / 100))) (congrArg Value.int (pk_div (by omega) (by decide) (by decide))) ?_
      refine lv_iload_n hx hb dX8_costIn_25 rfl (lv_at hl 1 rfl) ?_
      have B39 : ∀ (v39_0 : Int64), lseq (fX8_costIn_B39 σ y1 a5_2 v39_0) (fun q => fX8_costIn_L5 σ y1 n5 (k5 + 1) q) = G → ∀ ls : Array Slot, lv_has ls 5 [(0, .ref r), (1, .int y1), (4, .int (nI k5))] → W p l e (headSpec wsX8_costIn ({ frames := 5, cells := 0, slots := 0, locals := 129 } : Room)).room s m ([.ref r, .int y1] : List Value).toArray below meth c s.heap [] 0 0 (MQ below (xR (some (.long G))) ([.ref r, .int y1] : List Value).toArray s 0 0 (fun _ => False)) (F0 m 39 ls [.long v39_0, .long a5_2]) := by
        intro v39_0 hG ls hl
        unfold fX8_costIn_B39 at hG
        refine lv_ladd hx hb dX8_costIn_39 ?_
        refine lv_lstore_n (lv' := [(2, .long (a5_2 + v39_0)), (0, .ref r), (1, .int y1), (4, .int (nI k5))]) hx hb dX8_costIn_40 rfl hl (by decide) rfl (fun ls hl => ?_)
        refine lv_iinc (v := (nI (k5 + 1))) (lv' := [(4, .int (nI (k5 + 1))), (2, .long (a5_2 + v39_0)), (0, .ref r), (1, .int y1)]) hx hb dX8_costIn_41 hl (k := 3) rfl (nI_succ k5).symm (by decide) rfl (fun ls hl => ?_)
        refine lv_goto (tgt := 5) hx hb dX8_costIn_44 (by decide) ?_
        exact ih (k5 + 1) (a5_2 + v39_0) (by omega) hG ls (lv_sub hl [2, 3, 1, 0] rfl)
      refine lv_icmp_ne (tgt := 38) hx hb dX8_costIn_26 (by decide) (fun c_26 => ?_) (fun c_26 => ?_)
      · skip
        rw [if_neg c_26] at hG
        refine lv_lconst (v := (0 : Int64)) hx hb dX8_costIn_38 rfl ?_
        exact B39 (0 : Int64) hG ls (lv_sub hl [0, 1, 3] rfl)
      · skip
        rw [if_pos c_26] at hG
        refine lv_aload_n hx hb dX8_costIn_29 rfl (lv_at hl 0 rfl) ?_
        refine lv_iload hx hb dX8_costIn_30 (lv_at hl 3 rfl) ?_
        refine xcvR (As := [.int (nI k5)]) (rest := [.long a5_2]) (v := some (.long (fX8_bears σ k5))) ⟨hx, hb, hml, hown, hts⟩ (mX8_bears l lo D E h σ th r ar hR hW k5  (by first | assumption | omega)) (cwV 1 hts gX8_costIn_X8_bears rfl rfl rfl (by decide +kernel) ⟨Nat.le_of_ble_eq_true rfl, Nat.le_of_ble_eq_true rfl⟩) I hR.1 rfl rfl hl.1 rfl (Nat.le_of_ble_eq_true rfl) dX8_costIn_32 ⟨Nat.le_of_ble_eq_true rfl, Nat.le_of_ble_eq_true rfl⟩ ?_
        refine W.eq (g2 := F0 m 35 ls [.long (fX8_bears σ k5), .long a5_2]) rfl ?_
        refine lv_goto (tgt := 39) hx hb dX8_costIn_35 (by decide) ?_
        exact B39 (fX8_bears σ k5) hG ls (lv_sub hl [0, 1, 3] rfl)
  exact L5 (mN σ 30) 0 (0 : Int64) (by omega) hG ls (lv_sub hl [2, 3, 1, 0] rfl)
