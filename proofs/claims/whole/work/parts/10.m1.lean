def fX8_isIn (a1 : Int32) (b1 : Int32) (c1 : Int32) : Int32 := (if a1 < b1 then (nI 0) else (if c1 < a1 then (nI 0) else (nI 1)))
set_option maxHeartbeats 4000000 in
set_option maxRecDepth 100000 in
theorem mX8_isIn (l : Launch) (lo : Nat) (D : va_G) (E : Nat → ClassId) (h : XW) (a1 : Int32) (b1 : Int32) (c1 : Int32) : Met l yX8_isIn wsX8_isIn ({ frames := 0, cells := 0, slots := 0, locals := 0 } : Room) (xP lo D E h [.int a1, .int b1, .int c1]) (xR (some (.int (fX8_isIn a1 b1 c1)))) 0 0 (fun _ => False) := by
  obtain ⟨G, hG⟩ : ∃ G, fX8_isIn a1 b1 c1 = G := ⟨_, rfl⟩
  rw [hG]
  unfold fX8_isIn at hG
  refine Met.ofW (cc := cX8_isIn) (maxL := 3) (ret := (some .boolean)) (by decide) rfl ?_
  intro p e s m args below meth c s₁ B hml hv
  obtain ⟨rfl, I⟩ := hv
  have hx := B.exec
  have hb := B.bytes
  have hr := B.returns
  have hts := atoms_spec (ws := wsX8_isIn) B.pre
  have hown : s.vm.findClass RX8 = some m.cls := findClass_of_methodNamed B.named
  have hlocks := B.notSynchronized
  have hl := lv_entry ([.int a1, .int b1, .int c1] : List Value) (n := 3) (Nat.le_of_ble_eq_true rfl)
  rw [lg_entry_eq]
  generalize (lg_sl ([.int a1, .int b1, .int c1] : List Value) ++ List.replicate (3 - (lg_sl ([.int a1, .int b1, .int c1] : List Value)).length) Slot.unset).toArray = ls at hl ⊢
  have hl : lv_has ls 3 [(0, .int a1), (1, .int b1), (2, .int c1)] := hl
  refine lv_iload_n hx hb dX8_isIn_0 rfl (lv_at hl 0 rfl) ?_
  refine lv_iload_n hx hb dX8_isIn_1 rfl (lv_at hl 1 rfl) ?_
  refine lv_icmp_lt (tgt := 14) hx hb dX8_isIn_2 (by decide) (fun c_2 => ?_) (fun c_2 => ?_)
  · skip
    rw [if_pos c_2] at hG
    refine lv_iconst (v := (nI 0)) hx hb dX8_isIn_14 (by decide) ?_
    exact xrzR hx hb hr hlocks dX8_isIn_15 hG (by have hG2 : (nI 0) = G := hG; rw [← hG2]; exact xnb (Or.inl rfl))
  · skip
    rw [if_neg c_2] at hG
    refine lv_iload_n hx hb dX8_isIn_5 rfl (lv_at hl 0 rfl) ?_
    refine lv_iload_n hx hb dX8_isIn_6 rfl (lv_at hl 2 rfl) ?_
    refine lv_icmp_gt (tgt := 14) hx hb dX8_isIn_7 (by decide) (fun c_7 => ?_) (fun c_7 => ?_)
    · skip
      rw [if_pos c_7] at hG
      refine lv_iconst (v := (nI 0)) hx hb dX8_isIn_14 (by decide) ?_
      exact xrzR hx hb hr hlocks dX8_isIn_15 hG (by have hG2 : (nI 0) = G := hG; rw [← hG2]; exact xnb (Or.inl rfl))
    · skip
      rw [if_neg c_7] at hG
      refine lv_iconst (v := (nI 1)) hx hb dX8_isIn_10 (by decide) ?_
      refine lv_goto (tgt := 15) hx hb dX8_isIn_11 (by decide) ?_
      exact xrzR hx hb hr hlocks dX8_isIn_15 hG (by have hG2 : (nI 1) = G := hG; rw [← hG2]; exact xnb (Or.inr rfl))

theorem zX8_isIn (a b c : Int32) : fX8_isIn a b c = 0 ∨ fX8_isIn a b c = 1 := by
  unfold fX8_isIn
  repeat' split
  all_goals first | exact Or.inl rfl | exact Or.inr rfl

def fX8_isYear (a1 : Int32) : Int32 := (fX8_isIn a1 (nI 0) (nI 19))
set_option maxHeartbeats 4000000 in
set_option maxRecDepth 100000 in
theorem mX8_isYear (l : Launch) (lo : Nat) (D : va_G) (E : Nat → ClassId) (h : XW) (a1 : Int32) : Met l yX8_isYear wsX8_isYear ({ frames := 1, cells := 0, slots := 0, locals := 22 } : Room) (xP lo D E h [.int a1]) (xR (some (.int (fX8_isYear a1)))) 0 0 (fun _ => False) := by
  obtain ⟨G, hG⟩ : ∃ G, fX8_isYear a1 = G := ⟨_, rfl⟩
  rw [hG]
  unfold fX8_isYear at hG
  refine Met.ofW (cc := cX8_isYear) (maxL := 1) (ret := (some .boolean)) (by decide) rfl ?_
  intro p e s m args below meth c s₁ B hml hv
  obtain ⟨rfl, I⟩ := hv
  have hx := B.exec
  have hb := B.bytes
  have hr := B.returns
  have hts := atoms_spec (ws := wsX8_isYear) B.pre
  have hown : s.vm.findClass RX8 = some m.cls := findClass_of_methodNamed B.named
  have hlocks := B.notSynchronized
  have hl := lv_entry ([.int a1] : List Value) (n := 1) (Nat.le_of_ble_eq_true rfl)
  rw [lg_entry_eq]
  generalize (lg_sl ([.int a1] : List Value) ++ List.replicate (1 - (lg_sl ([.int a1] : List Value)).length) Slot.unset).toArray = ls at hl ⊢
  have hl : lv_has ls 1 [(0, .int a1)] := hl
  refine lv_iload_n hx hb dX8_isYear_0 rfl (lv_at hl 0 rfl) ?_
  refine lv_iconst (v := (nI 0)) hx hb dX8_isYear_1 (by decide) ?_
  refine lv_bipush (v := (nI 19)) hx hb dX8_isYear_2 (by decide) ?_
  refine xcsR (As := [.int a1, .int (nI 0), .int (nI 19)]) (rest := []) (v := some (.int (fX8_isIn a1 (nI 0) (nI 19)))) ⟨hx, hb, hml, hown, hts⟩ (mX8_isIn l lo D E h  a1 (nI 0) (nI 19)  ) (va_cwS 3 hts gX8_isYear_X8_isIn rfl rfl rfl (by decide +kernel) ⟨Nat.le_of_ble_eq_true rfl, Nat.le_of_ble_eq_true rfl⟩) I rfl hl.1 rfl (Nat.le_of_ble_eq_true rfl) dX8_isYear_4 ⟨Nat.le_of_ble_eq_true rfl, Nat.le_of_ble_eq_true rfl⟩ ?_
  refine W.eq (g2 := F0 m 7 ls [.int (fX8_isIn a1 (nI 0) (nI 19))]) rfl ?_
  exact xrzR hx hb hr hlocks dX8_isYear_7 hG (by have hG2 : (fX8_isIn a1 (nI 0) (nI 19)) = G := hG; rw [← hG2]; exact xnb (zX8_isIn a1 (nI 0) (nI 19) ))

theorem zX8_isYear (a : Int32) : fX8_isYear a = 0 ∨ fX8_isYear a = 1 := zX8_isIn _ _ _

def fX8_isLoss (a1 : Int32) : Int32 := (fX8_isIn a1 (nI 0) (nI 100000000))
set_option maxHeartbeats 4000000 in
set_option maxRecDepth 100000 in
theorem mX8_isLoss (l : Launch) (lo : Nat) (D : va_G) (E : Nat → ClassId) (h : XW) (a1 : Int32) : Met l yX8_isLoss wsX8_isLoss ({ frames := 1, cells := 0, slots := 0, locals := 22 } : Room) (xP lo D E h [.int a1]) (xR (some (.int (fX8_isLoss a1)))) 0 0 (fun _ => False) := by
  obtain ⟨G, hG⟩ : ∃ G, fX8_isLoss a1 = G := ⟨_, rfl⟩
  rw [hG]
  unfold fX8_isLoss at hG
  refine Met.ofW (cc := cX8_isLoss) (maxL := 1) (ret := (some .boolean)) (by decide) rfl ?_
  intro p e s m args below meth c s₁ B hml hv
  obtain ⟨rfl, I⟩ := hv
  have hx := B.exec
  have hb := B.bytes
  have hr := B.returns
  have hts := atoms_spec (ws := wsX8_isLoss) B.pre
  have hown : s.vm.findClass RX8 = some m.cls := findClass_of_methodNamed B.named
  have hlocks := B.notSynchronized
  have hl := lv_entry ([.int a1] : List Value) (n := 1) (Nat.le_of_ble_eq_true rfl)
  rw [lg_entry_eq]
  generalize (lg_sl ([.int a1] : List Value) ++ List.replicate (1 - (lg_sl ([.int a1] : List Value)).length) Slot.unset).toArray = ls at hl ⊢
  have hl : lv_has ls 1 [(0, .int a1)] := hl
  refine lv_iload_n hx hb dX8_isLoss_0 rfl (lv_at hl 0 rfl) ?_
  refine lv_iconst (v := (nI 0)) hx hb dX8_isLoss_1 (by decide) ?_
  refine lv_ldc (v := (nI 100000000)) hx hb hown (hts _ (List.mem_of_getElem? (i := 1) rfl)) dX8_isLoss_2 ?_
  refine xcsR (As := [.int a1, .int (nI 0), .int (nI 100000000)]) (rest := []) (v := some (.int (fX8_isIn a1 (nI 0) (nI 100000000)))) ⟨hx, hb, hml, hown, hts⟩ (mX8_isIn l lo D E h  a1 (nI 0) (nI 100000000)  ) (va_cwS 3 hts gX8_isLoss_X8_isIn rfl rfl rfl (by decide +kernel) ⟨Nat.le_of_ble_eq_true rfl, Nat.le_of_ble_eq_true rfl⟩) I rfl hl.1 rfl (Nat.le_of_ble_eq_true rfl) dX8_isLoss_4 ⟨Nat.le_of_ble_eq_true rfl, Nat.le_of_ble_eq_true rfl⟩ ?_
  refine W.eq (g2 := F0 m 7 ls [.int (fX8_isIn a1 (nI 0) (nI 100000000))]) rfl ?_
  exact xrzR hx hb hr hlocks dX8_isLoss_7 hG (by have hG2 : (fX8_isIn a1 (nI 0) (nI 100000000)) = G := hG; rw [← hG2]; exact xnb (zX8_isIn a1 (nI 0) (nI 100000000) ))

theorem zX8_isLoss (a : Int32) : fX8_isLoss a = 0 ∨ fX8_isLoss a = 1 := zX8_isIn _ _ _

def fX8_isKind (a1 : Int32) : Int32 := (fX8_isIn a1 (nI 0) (nI 3))
set_option maxHeartbeats 4000000 in
set_option maxRecDepth 100000 in
theorem mX8_isKind (l : Launch) (lo : Nat) (D : va_G) (E : Nat → ClassId) (h : XW) (a1 : Int32) : Met l yX8_isKind wsX8_isKind ({ frames := 1, cells := 0, slots := 0, locals := 22 } : Room) (xP lo D E h [.int a1]) (xR (some (.int (fX8_isKind a1)))) 0 0 (fun _ => False) := by
  obtain ⟨G, hG⟩ : ∃ G, fX8_isKind a1 = G := ⟨_, rfl⟩
  rw [hG]
  unfold fX8_isKind at hG
  refine Met.ofW (cc := cX8_isKind) (maxL := 1) (ret := (some .boolean)) (by decide) rfl ?_
  intro p e s m args below meth c s₁ B hml hv
  obtain ⟨rfl, I⟩ := hv
  have hx := B.exec
  have hb := B.bytes
  have hr := B.returns
  have hts := atoms_spec (ws := wsX8_isKind) B.pre
  have hown : s.vm.findClass RX8 = some m.cls := findClass_of_methodNamed B.named
  have hlocks := B.notSynchronized
  have hl := lv_entry ([.int a1] : List Value) (n := 1) (Nat.le_of_ble_eq_true rfl)
  rw [lg_entry_eq]
  generalize (lg_sl ([.int a1] : List Value) ++ List.replicate (1 - (lg_sl ([.int a1] : List Value)).length) Slot.unset).toArray = ls at hl ⊢
  have hl : lv_has ls 1 [(0, .int a1)] := hl
  refine lv_iload_n hx hb dX8_isKind_0 rfl (lv_at hl 0 rfl) ?_
  refine lv_iconst (v := (nI 0)) hx hb dX8_isKind_1 (by decide) ?_
  refine lv_iconst (v := (nI 3)) hx hb dX8_isKind_2 (by decide) ?_
  refine xcsR (As := [.int a1, .int (nI 0), .int (nI 3)]) (rest := []) (v := some (.int (fX8_isIn a1 (nI 0) (nI 3)))) ⟨hx, hb, hml, hown, hts⟩ (mX8_isIn l lo D E h  a1 (nI 0) (nI 3)  ) (va_cwS 3 hts gX8_isKind_X8_isIn rfl rfl rfl (by decide +kernel) ⟨Nat.le_of_ble_eq_true rfl, Nat.le_of_ble_eq_true rfl⟩) I rfl hl.1 rfl (Nat.le_of_ble_eq_true rfl) dX8_isKind_3 ⟨Nat.le_of_ble_eq_true rfl, Nat.le_of_ble_eq_true rfl⟩ ?_
  refine W.eq (g2 := F0 m 6 ls [.int (fX8_isIn a1 (nI 0) (nI 3))]) rfl ?_
  exact xrzR hx hb hr hlocks dX8_isKind_6 hG (by have hG2 : (fX8_isIn a1 (nI 0) (nI 3)) = G := hG; rw [← hG2]; exact xnb (zX8_isIn a1 (nI 0) (nI 3) ))

theorem zX8_isKind (a : Int32) : fX8_isKind a = 0 ∨ fX8_isKind a = 1 := zX8_isIn _ _ _

def fX8_isMember (σ : MT) (a1 : Int32) : Int32 := (fX8_isIn a1 (nI 0) ((nI (mN σ 2)) - (nI 1)))
set_option maxHeartbeats 4000000 in
set_option maxRecDepth 100000 in
theorem mX8_isMember (l : Launch) (lo : Nat) (D : va_G) (E : Nat → ClassId) (h : XW) (σ : MT) (th : Int32) (r : Nat) (ar : Nat → Nat) (hR : RM E σ th r ar h) (hW : MW σ) (a1 : Int32) : Met l yX8_isMember wsX8_isMember ({ frames := 1, cells := 0, slots := 0, locals := 22 } : Room) (xP lo D E h [.ref r, .int a1]) (xR (some (.int (fX8_isMember σ a1)))) 0 0 (fun _ => False) := by
  obtain ⟨G, hG⟩ : ∃ G, fX8_isMember σ a1 = G := ⟨_, rfl⟩
  rw [hG]
  unfold fX8_isMember at hG
  refine Met.ofW (cc := cX8_isMember) (maxL := 2) (ret := (some .boolean)) (by decide) rfl ?_
  intro p e s m args below meth c s₁ B hml hv
  obtain ⟨rfl, I⟩ := hv
  have hx := B.exec
  have hb := B.bytes
  have hr := B.returns
  have hts := atoms_spec (ws := wsX8_isMember) B.pre
  have hown : s.vm.findClass RX8 = some m.cls := findClass_of_methodNamed B.named
  have hlocks := B.notSynchronized
  have hl := lv_entry ([.ref r, .int a1] : List Value) (n := 2) (Nat.le_of_ble_eq_true rfl)
  rw [lg_entry_eq]
  generalize (lg_sl ([.ref r, .int a1] : List Value) ++ List.replicate (2 - (lg_sl ([.ref r, .int a1] : List Value)).length) Slot.unset).toArray = ls at hl ⊢
  have hl : lv_has ls 2 [(0, .ref r), (1, .int a1)] := hl
  have hin8 : ∀ w ∈ u_ws RX8 TX8 37, w ∈ wsX8_isMember := fun _ h => List.mem_cons_of_mem _ (List.mem_append_right _ (h))
  obtain ⟨⟨w1, w2, w3, w4, w5, w6, w7⟩, w9, w12, w21, w22, w23, w25, w31, z26, z27, z28, z36⟩ := id hW
  refine lv_iload_n hx hb dX8_isMember_0 rfl (lv_at hl 1 rfl) ?_
  refine lv_iconst (v := (nI 0)) hx hb dX8_isMember_1 (by decide) ?_
  refine lv_aload_n hx hb dX8_isMember_2 rfl (lv_at hl 0 rfl) ?_
  refine xget (C := RX8) (T := TX8) (N := 37) 2 hx hb hts hin8 hown I hR.1 rfl (by decide) (List.mem_of_getElem? (i := 1) rfl) rfl rfl dX8_isMember_3 ?_
  refine lv_iconst (v := (nI 1)) hx hb dX8_isMember_6 (by decide) ?_
  refine lv_isub hx hb dX8_isMember_7 ?_
  refine xcsR (As := [.int a1, .int (nI 0), .int ((nI (mN σ 2)) - (nI 1))]) (rest := []) (v := some (.int (fX8_isIn a1 (nI 0) ((nI (mN σ 2)) - (nI 1))))) ⟨hx, hb, hml, hown, hts⟩ (mX8_isIn l lo D E h  a1 (nI 0) ((nI (mN σ 2)) - (nI 1))  ) (va_cwS 3 hts gX8_isMember_X8_isIn rfl rfl rfl (by decide +kernel) ⟨Nat.le_of_ble_eq_true rfl, Nat.le_of_ble_eq_true rfl⟩) I rfl hl.1 rfl (Nat.le_of_ble_eq_true rfl) dX8_isMember_8 ⟨Nat.le_of_ble_eq_true rfl, Nat.le_of_ble_eq_true rfl⟩ ?_
  refine W.eq (g2 := F0 m 11 ls [.int (fX8_isIn a1 (nI 0) ((nI (mN σ 2)) - (nI 1)))]) rfl ?_
  exact xrzR hx hb hr hlocks dX8_isMember_11 hG (by have hG2 : (fX8_isIn a1 (nI 0) ((nI (mN σ 2)) - (nI 1))) = G := hG; rw [← hG2]; exact xnb (zX8_isIn a1 (nI 0) ((nI (mN σ 2)) - (nI 1)) ))

theorem zX8_isMember (σ : MT) (hW : MW σ) (a : Int32) : fX8_isMember σ a = 0 ∨ fX8_isMember σ a = 1 := zX8_isIn _ _ _

def fX8_isShip (σ : MT) (a1 : Int32) : Int32 := (fX8_isIn a1 (nI 0) ((nI (mN σ 8)) - (nI 1)))
set_option maxHeartbeats 4000000 in
set_option maxRecDepth 100000 in
theorem mX8_isShip (l : Launch) (lo : Nat) (D : va_G) (E : Nat → ClassId) (h : XW) (σ : MT) (th : Int32) (r : Nat) (ar : Nat → Nat) (hR : RM E σ th r ar h) (hW : MW σ) (a1 : Int32) : Met l yX8_isShip wsX8_isShip ({ frames := 1, cells := 0, slots := 0, locals := 22 } : Room) (xP lo D E h [.ref r, .int a1]) (xR (some (.int (fX8_isShip σ a1)))) 0 0 (fun _ => False) := by
  obtain ⟨G, hG⟩ : ∃ G, fX8_isShip σ a1 = G := ⟨_, rfl⟩
  rw [hG]
  unfold fX8_isShip at hG
  refine Met.ofW (cc := cX8_isShip) (maxL := 2) (ret := (some .boolean)) (by decide) rfl ?_
  intro p e s m args below meth c s₁ B hml hv
  obtain ⟨rfl, I⟩ := hv
  have hx := B.exec
  have hb := B.bytes
  have hr := B.returns
  have hts := atoms_spec (ws := wsX8_isShip) B.pre
  have hown : s.vm.findClass RX8 = some m.cls := findClass_of_methodNamed B.named
  have hlocks := B.notSynchronized
  have hl := lv_entry ([.ref r, .int a1] : List Value) (n := 2) (Nat.le_of_ble_eq_true rfl)
  rw [lg_entry_eq]
  generalize (lg_sl ([.ref r, .int a1] : List Value) ++ List.replicate (2 - (lg_sl ([.ref r, .int a1] : List Value)).length) Slot.unset).toArray = ls at hl ⊢
  have hl : lv_has ls 2 [(0, .ref r), (1, .int a1)] := hl
  have hin8 : ∀ w ∈ u_ws RX8 TX8 37, w ∈ wsX8_isShip := fun _ h => List.mem_cons_of_mem _ (List.mem_append_right _ (h))
  obtain ⟨⟨w1, w2, w3, w4, w5, w6, w7⟩, w9, w12, w21, w22, w23, w25, w31, z26, z27, z28, z36⟩ := id hW
  refine lv_iload_n hx hb dX8_isShip_0 rfl (lv_at hl 1 rfl) ?_
  refine lv_iconst (v := (nI 0)) hx hb dX8_isShip_1 (by decide) ?_
  refine lv_aload_n hx hb dX8_isShip_2 rfl (lv_at hl 0 rfl) ?_
  refine xget (C := RX8) (T := TX8) (N := 37) 8 hx hb hts hin8 hown I hR.1 rfl (by decide) (List.mem_of_getElem? (i := 1) rfl) rfl rfl dX8_isShip_3 ?_
  refine lv_iconst (v := (nI 1)) hx hb dX8_isShip_6 (by decide) ?_
  refine lv_isub hx hb dX8_isShip_7 ?_
  refine xcsR (As := [.int a1, .int (nI 0), .int ((nI (mN σ 8)) - (nI 1))]) (rest := []) (v := some (.int (fX8_isIn a1 (nI 0) ((nI (mN σ 8)) - (nI 1))))) ⟨hx, hb, hml, hown, hts⟩ (mX8_isIn l lo D E h  a1 (nI 0) ((nI (mN σ 8)) - (nI 1))  ) (va_cwS 3 hts gX8_isShip_X8_isIn rfl rfl rfl (by decide +kernel) ⟨Nat.le_of_ble_eq_true rfl, Nat.le_of_ble_eq_true rfl⟩) I rfl hl.1 rfl (Nat.le_of_ble_eq_true rfl) dX8_isShip_8 ⟨Nat.le_of_ble_eq_true rfl, Nat.le_of_ble_eq_true rfl⟩ ?_
  refine W.eq (g2 := F0 m 11 ls [.int (fX8_isIn a1 (nI 0) ((nI (mN σ 8)) - (nI 1)))]) rfl ?_
  exact xrzR hx hb hr hlocks dX8_isShip_11 hG (by have hG2 : (fX8_isIn a1 (nI 0) ((nI (mN σ 8)) - (nI 1))) = G := hG; rw [← hG2]; exact xnb (zX8_isIn a1 (nI 0) ((nI (mN σ 8)) - (nI 1)) ))

theorem zX8_isShip (σ : MT) (hW : MW σ) (a : Int32) : fX8_isShip σ a = 0 ∨ fX8_isShip σ a = 1 := zX8_isIn _ _ _

def fX8_isClaim (σ : MT) (a1 : Int32) : Int32 := (fX8_isIn a1 (nI 0) ((nI (mN σ 20)) - (nI 1)))
set_option maxHeartbeats 4000000 in
set_option maxRecDepth 100000 in
theorem mX8_isClaim (l : Launch) (lo : Nat) (D : va_G) (E : Nat → ClassId) (h : XW) (σ : MT) (th : Int32) (r : Nat) (ar : Nat → Nat) (hR : RM E σ th r ar h) (hW : MW σ) (a1 : Int32) : Met l yX8_isClaim wsX8_isClaim ({ frames := 1, cells := 0, slots := 0, locals := 22 } : Room) (xP lo D E h [.ref r, .int a1]) (xR (some (.int (fX8_isClaim σ a1)))) 0 0 (fun _ => False) := by
  obtain ⟨G, hG⟩ : ∃ G, fX8_isClaim σ a1 = G := ⟨_, rfl⟩
  rw [hG]
  unfold fX8_isClaim at hG
  refine Met.ofW (cc := cX8_isClaim) (maxL := 2) (ret := (some .boolean)) (by decide) rfl ?_
  intro p e s m args below meth c s₁ B hml hv
  obtain ⟨rfl, I⟩ := hv
  have hx := B.exec
  have hb := B.bytes
  have hr := B.returns
  have hts := atoms_spec (ws := wsX8_isClaim) B.pre
  have hown : s.vm.findClass RX8 = some m.cls := findClass_of_methodNamed B.named
  have hlocks := B.notSynchronized
  have hl := lv_entry ([.ref r, .int a1] : List Value) (n := 2) (Nat.le_of_ble_eq_true rfl)
  rw [lg_entry_eq]
  generalize (lg_sl ([.ref r, .int a1] : List Value) ++ List.replicate (2 - (lg_sl ([.ref r, .int a1] : List Value)).length) Slot.unset).toArray = ls at hl ⊢
  have hl : lv_has ls 2 [(0, .ref r), (1, .int a1)] := hl
  have hin8 : ∀ w ∈ u_ws RX8 TX8 37, w ∈ wsX8_isClaim := fun _ h => List.mem_cons_of_mem _ (List.mem_append_right _ (h))
  obtain ⟨⟨w1, w2, w3, w4, w5, w6, w7⟩, w9, w12, w21, w22, w23, w25, w31, z26, z27, z28, z36⟩ := id hW
  refine lv_iload_n hx hb dX8_isClaim_0 rfl (lv_at hl 1 rfl) ?_
  refine lv_iconst (v := (nI 0)) hx hb dX8_isClaim_1 (by decide) ?_
  refine lv_aload_n hx hb dX8_isClaim_2 rfl (lv_at hl 0 rfl) ?_
  refine xget (C := RX8) (T := TX8) (N := 37) 20 hx hb hts hin8 hown I hR.1 rfl (by decide) (List.mem_of_getElem? (i := 1) rfl) rfl rfl dX8_isClaim_3 ?_
  refine lv_iconst (v := (nI 1)) hx hb dX8_isClaim_6 (by decide) ?_
  refine lv_isub hx hb dX8_isClaim_7 ?_
  refine xcsR (As := [.int a1, .int (nI 0), .int ((nI (mN σ 20)) - (nI 1))]) (rest := []) (v := some (.int (fX8_isIn a1 (nI 0) ((nI (mN σ 20)) - (nI 1))))) ⟨hx, hb, hml, hown, hts⟩ (mX8_isIn l lo D E h  a1 (nI 0) ((nI (mN σ 20)) - (nI 1))  ) (va_cwS 3 hts gX8_isClaim_X8_isIn rfl rfl rfl (by decide +kernel) ⟨Nat.le_of_ble_eq_true rfl, Nat.le_of_ble_eq_true rfl⟩) I rfl hl.1 rfl (Nat.le_of_ble_eq_true rfl) dX8_isClaim_8 ⟨Nat.le_of_ble_eq_true rfl, Nat.le_of_ble_eq_true rfl⟩ ?_
  refine W.eq (g2 := F0 m 11 ls [.int (fX8_isIn a1 (nI 0) ((nI (mN σ 20)) - (nI 1)))]) rfl ?_
  exact xrzR hx hb hr hlocks dX8_isClaim_11 hG (by have hG2 : (fX8_isIn a1 (nI 0) ((nI (mN σ 20)) - (nI 1))) = G := hG; rw [← hG2]; exact xnb (zX8_isIn a1 (nI 0) ((nI (mN σ 20)) - (nI 1)) ))

theorem zX8_isClaim (σ : MT) (hW : MW σ) (a : Int32) : fX8_isClaim σ a = 0 ∨ fX8_isClaim σ a = 1 := zX8_isIn _ _ _

def fX8_open_S4 (σ : MT) (a1 : Int32) (k4 : Nat) (a4_2 : Int32) : (Int32) := (if (nI (mK σ 12 k4)) = a1 then (if (mI σ 14 k4) = (-1) then (nI k4) else a4_2) else a4_2)
def fX8_open_L4 (σ : MT) (a1 : Int32) : Nat → Nat → Int32 → Int32
  | 0, k4, a4_2 => a4_2
  | n4 + 1, k4, a4_2 => lseq (fX8_open_S4 σ a1 k4 a4_2) (fun q => fX8_open_L4 σ a1 n4 (k4 + 1) q)
def fX8_open (σ : MT) (a1 : Int32) : Int32 := (fX8_open_L4 σ a1 (mN σ 11) 0 (-1))
set_option maxHeartbeats 4000000 in
set_option maxRecDepth 100000 in
theorem mX8_open (l : Launch) (lo : Nat) (D : va_G) (E : Nat → ClassId) (h : XW) (σ : MT) (th : Int32) (r : Nat) (ar : Nat → Nat) (hR : RM E σ th r ar h) (hW : MW σ) (a1 : Int32) : Met l yX8_open wsX8_open ({ frames := 0, cells := 0, slots := 0, locals := 0 } : Room) (xP lo D E h [.ref r, .int a1]) (xR (some (.int (fX8_open σ a1)))) 0 0 (fun _ => False) := by
  obtain ⟨G, hG⟩ : ∃ G, fX8_open σ a1 = G := ⟨_, rfl⟩
  rw [hG]
  unfold fX8_open at hG
  refine Met.ofW (cc := cX8_open) (maxL := 4) (ret := (some .int)) (by decide) rfl ?_
  intro p e s m args below meth c s₁ B hml hv
  obtain ⟨rfl, I⟩ := hv
  have hx := B.exec
  have hb := B.bytes
  have hr := B.returns
  have hts := atoms_spec (ws := wsX8_open) B.pre
  have hown : s.vm.findClass RX8 = some m.cls := findClass_of_methodNamed B.named
  have hlocks := B.notSynchronized
  have hl := lv_entry ([.ref r, .int a1] : List Value) (n := 4) (Nat.le_of_ble_eq_true rfl)
  rw [lg_entry_eq]
  generalize (lg_sl ([.ref r, .int a1] : List Value) ++ List.replicate (4 - (lg_sl ([.ref r, .int a1] : List Value)).length) Slot.unset).toArray = ls at hl ⊢
  have hl : lv_has ls 4 [(0, .ref r), (1, .int a1)] := hl
  have hin8 : ∀ w ∈ u_ws RX8 TX8 37, w ∈ wsX8_open := fun _ h => List.mem_cons_of_mem _ (List.mem_append_right _ (h))
  obtain ⟨⟨w1, w2, w3, w4, w5, w6, w7⟩, w9, w12, w21, w22, w23, w25, w31, z26, z27, z28, z36⟩ := id hW
  refine lv_iconst (v := (-1)) hx hb dX8_open_0 (by decide) ?_
  refine lv_istore_n (lv' := [(2, .int (-1)), (0, .ref r), (1, .int a1)]) hx hb dX8_open_1 rfl hl (by decide) rfl (fun ls hl => ?_)
  refine lv_iconst (v := (nI 0)) hx hb dX8_open_2 (by decide) ?_
  refine lv_istore_n (lv' := [(3, .int (nI 0)), (2, .int (-1)), (0, .ref r), (1, .int a1)]) hx hb dX8_open_3 rfl hl (by decide) rfl (fun ls hl => ?_)
  have L4 : ∀ (n4 : Nat) (k4 : Nat) (a4_2 : Int32), k4 + n4 = mN σ 11 → fX8_open_L4 σ a1 n4 k4 a4_2 = G → ∀ ls : Array Slot, lv_has ls 4 [(0, .ref r), (1, .int a1), (2, .int a4_2), (3, .int (nI k4))] → W p l e (headSpec wsX8_open ({ frames := 0, cells := 0, slots := 0, locals := 0 } : Room)).room s m ([.ref r, .int a1] : List Value).toArray below meth c s.heap [] 0 0 (MQ below (xR (some (.int G))) ([.ref r, .int a1] : List Value).toArray s 0 0 (fun _ => False)) (F0 m 4 ls []) := by
    intro n4
    induction n4 with
    | zero =>
      intro k4 a4_2 hkn hG ls hl
      have hkN : k4 = mN σ 11 := by omega
      have hG : a4_2 = G := hG
      refine lv_iload_n hx hb dX8_open_4 rfl (lv_at hl 3 rfl) ?_
      refine lv_aload_n hx hb dX8_open_5 rfl (lv_at hl 0 rfl) ?_
      refine xget (C := RX8) (T := TX8) (N := 37) 11 hx hb hts hin8 hown I hR.1 rfl (by decide) (List.mem_of_getElem? (i := 1) rfl) rfl rfl dX8_open_6 ?_
      refine lv_icmp_ge (tgt := 44) hx hb dX8_open_9 (by decide) (fun _ => ?_) (fun q => absurd (nI_le (Nat.le_of_eq hkN.symm) (by omega)) q)
      refine lv_iload_n hx hb dX8_open_44 rfl (lv_at hl 2 rfl) ?_
      exact xriR hx hb hr hlocks dX8_open_45 hG
    | succ n4 ih =>
      intro k4 a4_2 hkn hG ls hl
      have hk : k4 < mN σ 11 := by omega
      have hG : lseq ((if (nI (mK σ 12 k4)) = a1 then (if (mI σ 14 k4) = (-1) then (nI k4) else a4_2) else a4_2)) (fun q => fX8_open_L4 σ a1 n4 (k4 + 1) q) = G := hG
      refine lv_iload_n hx hb dX8_open_4 rfl (lv_at hl 3 rfl) ?_
      refine lv_aload_n hx hb dX8_open_5 rfl (lv_at hl 0 rfl) ?_
      refine xget (C := RX8) (T := TX8) (N := 37) 11 hx hb hts hin8 hown I hR.1 rfl (by decide) (List.mem_of_getElem? (i := 1) rfl) rfl rfl dX8_open_6 ?_
      refine lv_icmp_ge (tgt := 44) hx hb dX8_open_9 (by decide) (fun q => absurd q (nI_ge hk (by omega))) (fun _ => ?_)
      refine lv_aload_n hx hb dX8_open_12 rfl (lv_at hl 0 rfl) ?_
      refine xget (C := RX8) (T := TX8) (N := 37) 12 hx hb hts hin8 hown I hR.1 rfl (by decide) (List.mem_of_getElem? (i := 2) rfl) rfl rfl dX8_open_13 ?_
      refine lv_iload_n hx hb dX8_open_16 rfl (lv_at hl 3 rfl) ?_
      refine xiald (i := k4) (n := 60) hx hb I (hR.2.2.1 12 60 (by decide)) (by omega) (by decide) dX8_open_17 ?_
      have b17 := w12 k4 (by omega)
      refine lv_iload_n hx hb dX8_open_18 rfl (lv_at hl 1 rfl) ?_
      refine lv_icmp_ne (tgt := 36) hx hb dX8_open_19 (by decide) (fun c_19 => ?_) (fun c_19 => ?_)
      · skip
        rw [if_neg c_19] at hG
        refine lv_iload_n hx hb dX8_open_36 rfl (lv_at hl 2 rfl) ?_
        refine lv_istore_n (lv' := [(2, .int a4_2), (0, .ref r), (1, .int a1), (3, .int (nI k4))]) hx hb dX8_open_37 rfl hl (by decide) rfl (fun ls hl => ?_)
        refine lv_iinc (v := (nI (k4 + 1))) (lv' := [(3, .int (nI (k4 + 1))), (2, .int a4_2), (0, .ref r), (1, .int a1)]) hx hb dX8_open_38 hl (k := 3) rfl (nI_succ k4).symm (by decide) rfl (fun ls hl => ?_)
        refine lv_goto (tgt := 4) hx hb dX8_open_41 (by decide) ?_
        exact ih (k4 + 1) a4_2 (by omega) hG ls (lv_sub hl [2, 3, 1, 0] rfl)
      · skip
        rw [if_pos c_19] at hG
        refine lv_aload_n hx hb dX8_open_22 rfl (lv_at hl 0 rfl) ?_
        refine xget (C := RX8) (T := TX8) (N := 37) 14 hx hb hts hin8 hown I hR.1 rfl (by decide) (List.mem_of_getElem? (i := 3) rfl) rfl rfl dX8_open_23 ?_
        refine lv_iload_n hx hb dX8_open_26 rfl (lv_at hl 3 rfl) ?_
        refine xiald (i := k4) (n := 60) hx hb I (hR.2.1 14 60 (by decide)) (by omega) (by decide) dX8_open_27 ?_
        refine lv_iconst (v := (-1)) hx hb dX8_open_28 (by decide) ?_
        refine lv_icmp_ne (tgt := 36) hx hb dX8_open_29 (by decide) (fun c_29 => ?_) (fun c_29 => ?_)
        · skip
          rw [if_neg c_29] at hG
          refine lv_iload_n hx hb dX8_open_36 rfl (lv_at hl 2 rfl) ?_
          refine lv_istore_n (lv' := [(2, .int a4_2), (0, .ref r), (1, .int a1), (3, .int (nI k4))]) hx hb dX8_open_37 rfl hl (by decide) rfl (fun ls hl => ?_)
          refine lv_iinc (v := (nI (k4 + 1))) (lv' := [(3, .int (nI (k4 + 1))), (2, .int a4_2), (0, .ref r), (1, .int a1)]) hx hb dX8_open_38 hl (k := 3) rfl (nI_succ k4).symm (by decide) rfl (fun ls hl => ?_)
          refine lv_goto (tgt := 4) hx hb dX8_open_41 (by decide) ?_
          exact ih (k4 + 1) a4_2 (by omega) hG ls (lv_sub hl [2, 3, 1, 0] rfl)
        · skip
          rw [if_pos c_29] at hG
          refine lv_iload_n hx hb dX8_open_32 rfl (lv_at hl 3 rfl) ?_
          refine lv_goto (tgt := 37) hx hb dX8_open_33 (by decide) ?_
          refine lv_istore_n (lv' := [(2, .int (nI k4)), (0, .ref r), (1, .int a1), (3, .int (nI k4))]) hx hb dX8_open_37 rfl hl (by decide) rfl (fun ls hl => ?_)
          refine lv_iinc (v := (nI (k4 + 1))) (lv' := [(3, .int (nI (k4 + 1))), (2, .int (nI k4)), (0, .ref r), (1, .int a1)]) hx hb dX8_open_38 hl (k := 3) rfl (nI_succ k4).symm (by decide) rfl (fun ls hl => ?_)
          refine lv_goto (tgt := 4) hx hb dX8_open_41 (by decide) ?_
          exact ih (k4 + 1) (nI k4) (by omega) hG ls (lv_sub hl [2, 3, 1, 0] rfl)
  exact L4 (mN σ 11) 0 (-1) (by omega) hG ls (lv_sub hl [2, 3, 1, 0] rfl)

def fX8_weightOf_B150 (σ : MT) (m1 : Nat) (y1 : Nat) (a5_3 : Int64) (v150_0 : Int64) : (Int64) := (a5_3 + v150_0)
def fX8_weightOf_B118 (σ : MT) (m1 : Nat) (y1 : Nat) (k5 : Nat) (a5_3 : Int64) (v42_0 : Int32) (v88_0 : Int32) (v118_0 : Int32) : (Int64) := (fX8_weightOf_B150 σ m1 y1 a5_3 (if v118_0 = 0 then (0 : Int64) else ((mI σ 10 (mK σ 12 k5)).toInt64 * (v88_0 - v42_0).toInt64)))
def fX8_weightOf_B88 (σ : MT) (m1 : Nat) (y1 : Nat) (k5 : Nat) (a5_3 : Int64) (v42_0 : Int32) (v88_0 : Int32) : (Int64) := (fX8_weightOf_B118 σ m1 y1 k5 a5_3 v42_0 v88_0 (if (nI (mK σ 9 (mK σ 12 k5))) = (nI m1) then (if v88_0 ≤ v42_0 then (nI 0) else (nI 1)) else (nI 0)))
def fX8_weightOf_B42 (σ : MT) (m1 : Nat) (y1 : Nat) (k5 : Nat) (a5_3 : Int64) (v42_0 : Int32) : (Int64) := (fX8_weightOf_B88 σ m1 y1 k5 a5_3 v42_0 (if (mI σ 14 k5) = (-1) then (nI (100 * y1 + 100)) else (if (nI (100 * y1 + 100)) ≤ (mI σ 14 k5) then (nI (100 * y1 + 100)) else (mI σ 14 k5))))
def fX8_weightOf_S5 (σ : MT) (m1 : Nat) (y1 : Nat) (k5 : Nat) (a5_3 : Int64) : (Int64) := (fX8_weightOf_B42 σ m1 y1 k5 a5_3 (if (mI σ 13 k5) ≤ (nI (100 * y1)) then (nI (100 * y1)) else (mI σ 13 k5)))
def fX8_weightOf_L5 (σ : MT) (m1 : Nat) (y1 : Nat) : Nat → Nat → Int64 → Int64
  | 0, k5, a5_3 => ((a5_3 * (mI σ 3 (20 * m1 + y1)).toInt64) / (100 : Int64))
  | n5 + 1, k5, a5_3 => lseq (fX8_weightOf_S5 σ m1 y1 k5 a5_3) (fun q => fX8_weightOf_L5 σ m1 y1 n5 (k5 + 1) q)
def fX8_weightOf (σ : MT) (m1 : Nat) (y1 : Nat) : Int64 := (fX8_weightOf_L5 σ m1 y1 (mN σ 11) 0 (0 : Int64))
set_option maxHeartbeats 4000000 in
set_option maxRecDepth 100000 in
theorem mX8_weightOf (l : Launch) (lo : Nat) (D : va_G) (E : Nat → ClassId) (h : XW) (σ : MT) (th : Int32) (r : Nat) (ar : Nat → Nat) (hR : RM E σ th r ar h) (hW : MW σ) (m1 : Nat) (y1 : Nat) (hm : m1 < mN σ 2) (hy : y1 < 20) : Met l yX8_weightOf wsX8_weightOf ({ frames := 0, cells := 0, slots := 0, locals := 0 } : Room) (xP lo D E h [.ref r, .int (nI m1), .int (nI y1)]) (xR (some (.long (fX8_weightOf σ m1 y1)))) 0 0 (fun _ => False) := by
  obtain ⟨G, hG⟩ : ∃ G, fX8_weightOf σ m1 y1 = G := ⟨_, rfl⟩
  rw [hG]
  unfold fX8_weightOf at hG
  refine Met.ofW (cc := cX8_weightOf) (maxL := 10) (ret := (some .long)) (by decide) rfl ?_
  intro p e s m args below meth c s₁ B hml hv
  obtain ⟨rfl, I⟩ := hv
  have hx := B.exec
  have hb := B.bytes
  have hr := B.returns
  have hts := atoms_spec (ws := wsX8_weightOf) B.pre
  have hown : s.vm.findClass RX8 = some m.cls := findClass_of_methodNamed B.named
  have hlocks := B.notSynchronized
  have hl := lv_entry ([.ref r, .int (nI m1), .int (nI y1)] : List Value) (n := 10) (Nat.le_of_ble_eq_true rfl)
  rw [lg_entry_eq]
  generalize (lg_sl ([.ref r, .int (nI m1), .int (nI y1)] : List Value) ++ List.replicate (10 - (lg_sl ([.ref r, .int (nI m1), .int (nI y1)] : List Value)).length) Slot.unset).toArray = ls at hl ⊢
  have hl : lv_has ls 10 [(0, .ref r), (1, .int (nI m1)), (2, .int (nI y1))] := hl
  have hin8 : ∀ w ∈ u_ws RX8 TX8 37, w ∈ wsX8_weightOf := fun _ h => List.mem_cons_of_mem _ (List.mem_append_right _ (h))
  obtain ⟨⟨w1, w2, w3, w4, w5, w6, w7⟩, w9, w12, w21, w22, w23, w25, w31, z26, z27, z28, z36⟩ := id hW
  refine lv_lconst (v := (0 : Int64)) hx hb dX8_weightOf_0 rfl ?_
  refine lv_lstore_n (lv' := [(3, .long (0 : Int64)), (0, .ref r), (1, .int (nI m1)), (2, .int (nI y1))]) hx hb dX8_weightOf_1 rfl hl (by decide) rfl (fun ls hl => ?_)
  refine lv_iconst (v := (nI 0)) hx hb dX8_weightOf_2 (by decide) ?_
  refine lv_istore (lv' := [(5, .int (nI 0)), (3, .long (0 : Int64)), (0, .ref r), (1, .int (nI m1)), (2, .int (nI y1))]) hx hb dX8_weightOf_3 hl (by decide) rfl (fun ls hl => ?_)
  have L5 : ∀ (n5 : Nat) (k5 : Nat) (a5_3 : Int64), k5 + n5 = mN σ 11 → fX8_weightOf_L5 σ m1 y1 n5 k5 a5_3 = G → ∀ ls : Array Slot, lv_has ls 10 [(0, .ref r), (1, .int (nI m1)), (2, .int (nI y1)), (3, .long a5_3), (5, .int (nI k5))] → W p l e (headSpec wsX8_weightOf ({ frames := 0, cells := 0, slots := 0, locals := 0 } : Room)).room s m ([.ref r, .int (nI m1), .int (nI y1)] : List Value).toArray below meth c s.heap [] 0 0 (MQ below (xR (some (.long G))) ([.ref r, .int (nI m1), .int (nI y1)] : List Value).toArray s 0 0 (fun _ => False)) (F0 m 5 ls []) := by
    intro n5
    induction n5 with
    | zero =>
      intro k5 a5_3 hkn hG ls hl
      have hkN : k5 = mN σ 11 := by omega
      have hG : ((a5_3 * (mI σ 3 (20 * m1 + y1)).toInt64) / (100 : Int64)) = G := hG
      refine lv_iload hx hb dX8_weightOf_5 (lv_at hl 4 rfl) ?_
      refine lv_aload_n hx hb dX8_weightOf_7 rfl (lv_at hl 0 rfl) ?_
      refine xget (C := RX8) (T := TX8) (N := 37) 11 hx hb hts hin8 hown I hR.1 rfl (by decide) (List.mem_of_getElem? (i := 1) rfl) rfl rfl dX8_weightOf_8 ?_
      refine lv_icmp_ge (tgt := 158) hx hb dX8_weightOf_11 (by decide) (fun _ => ?_) (fun q => absurd (nI_le (Nat.le_of_eq hkN.symm) (by omega)) q)
      refine lv_lload_n hx hb dX8_weightOf_158 rfl (lv_at hl 3 rfl) ?_
      refine lv_aload_n hx hb dX8_weightOf_159 rfl (lv_at hl 0 rfl) ?_
      refine xget (C := RX8) (T := TX8) (N := 37) 3 hx hb hts hin8 hown I hR.1 rfl (by decide) (List.mem_of_getElem? (i := 7) rfl) rfl rfl dX8_weightOf_160 ?_
      refine lv_bipush (v := (nI 20)) hx hb dX8_weightOf_163 (by decide) ?_
      refine lv_iload_n hx hb dX8_weightOf_165 rfl (lv_at hl 1 rfl) ?_
      refine lv_imul hx hb dX8_weightOf_166 ?_
      refine xtop (y := .int (nI (20 * m1))) (congrArg Value.int (pk_mul _ _)) ?_
      refine lv_iload_n hx hb dX8_weightOf_167 rfl (lv_at hl 2 rfl) ?_
      refine lv_iadd hx hb dX8_weightOf_168 ?_
      refine xtop (y := .int (nI (20 * m1 + y1))) (congrArg Value.int (nI_add _ _)) ?_
      refine xiald (i := (20 * m1 + y1)) (n := 240) hx hb I (hR.2.1 3 240 (by decide)) (by omega) (by decide) dX8_weightOf_169 ?_
      refine lv_i2l (v := (mI σ 3 (20 * m1 + y1)).toInt64) hx hb dX8_weightOf_170 rfl ?_
      refine lv_lmul hx hb dX8_weightOf_171 ?_
      refine lv_ldc2 (v := (100 : Int64)) hx hb hown (hts _ (List.mem_of_getElem? (i := 8) rfl)) dX8_weightOf_172 ?_
      refine lv_ldiv hx hb dX8_weightOf_175 (by decide) ?_
      exact xrlR hx hb hr hlocks dX8_weightOf_176 hG
    | succ n5 ih =>
      intro k5 a5_3 hkn hG ls hl
      have hk : k5 < mN σ 11 := by omega
      have hG : lseq ((fX8_weightOf_B42 σ m1 y1 k5 a5_3 (if (mI σ 13 k5) ≤ (nI (100 * y1)) then (nI (100 * y1)) else (mI σ 13 k5)))) (fun q => fX8_weightOf_L5 σ m1 y1 n5 (k5 + 1) q) = G := hG
      refine lv_iload hx hb dX8_weightOf_5 (lv_at hl 4 rfl) ?_
      refine lv_aload_n hx hb dX8_weightOf_7 rfl (lv_at hl 0 rfl) ?_
      refine xget (C := RX8) (T := TX8) (N := 37) 11 hx hb hts hin8 hown I hR.1 rfl (by decide) (List.mem_of_getElem? (i := 1) rfl) rfl rfl dX8_weightOf_8 ?_
      refine lv_icmp_ge (tgt := 158) hx hb dX8_weightOf_11 (by decide) (fun q => absurd q (nI_ge hk (by omega))) (fun _ => ?_)
      refine lv_aload_n hx hb dX8_weightOf_14 rfl (lv_at hl 0 rfl) ?_
      refine xget (C := RX8) (T := TX8) (N := 37) 13 hx hb hts hin8 hown I hR.1 rfl (by decide) (List.mem_of_getElem? (i := 2) rfl) rfl rfl dX8_weightOf_15 ?_
      refine lv_iload hx hb dX8_weightOf_18 (lv_at hl 4 rfl) ?_
      refine xiald (i := k5) (n := 60) hx hb I (hR.2.1 13 60 (by decide)) (by omega) (by decide) dX8_weightOf_20 ?_
      refine lv_bipush (v := (nI 100)) hx hb dX8_weightOf_21 (by decide) ?_
      refine lv_iload_n hx hb dX8_weightOf_23 rfl (lv_at hl 2 rfl) ?_
      refine lv_imul hx hb dX8_weightOf_24 ?_
      refine xtop (y := .int (nI (100 * y1))) (congrArg Value.int (pk_mul _ _)) ?_
      have B42 : ∀ (v42_0 : Int32), lseq (fX8_weightOf_B42 σ m1 y1 k5 a5_3 v42_0) (fun q => fX8_weightOf_L5 σ m1 y1 n5 (k5 + 1) q) = G → ∀ ls : Array Slot, lv_has ls 10 [(0, .ref r), (1, .int (nI m1)), (2, .int (nI y1)), (3, .long a5_3), (5, .int (nI k5))] → W p l e (headSpec wsX8_weightOf ({ frames := 0, cells := 0, slots := 0, locals := 0 } : Room)).room s m ([.ref r, .int (nI m1), .int (nI y1)] : List Value).toArray below meth c s.heap [] 0 0 (MQ below (xR (some (.long G))) ([.ref r, .int (nI m1), .int (nI y1)] : List Value).toArray s 0 0 (fun _ => False)) (F0 m 42 ls [.int v42_0]) := by
        intro v42_0 hG ls hl
        unfold fX8_weightOf_B42 at hG
        refine lv_istore (lv' := [(6, .int v42_0), (0, .ref r), (1, .int (nI m1)), (2, .int (nI y1)), (3, .long a5_3), (5, .int (nI k5))]) hx hb dX8_weightOf_42 hl (by decide) rfl (fun ls hl => ?_)
        refine lv_bipush (v := (nI 100)) hx hb dX8_weightOf_44 (by decide) ?_
        refine lv_iload_n hx hb dX8_weightOf_46 rfl (lv_at hl 3 rfl) ?_
        refine lv_imul hx hb dX8_weightOf_47 ?_
        refine xtop (y := .int (nI (100 * y1))) (congrArg Value.int (pk_mul _ _)) ?_
        refine lv_bipush (v := (nI 100)) hx hb dX8_weightOf_48 (by decide) ?_
        refine lv_iadd hx hb dX8_weightOf_50 ?_
        refine xtop (y := .int (nI (100 * y1 + 100))) (congrArg Value.int (nI_add _ _)) ?_
        refine lv_istore (lv' := [(7, .int (nI (100 * y1 + 100))), (6, .int v42_0), (0, .ref r), (1, .int (nI m1)), (2, .int (nI y1)), (3, .long a5_3), (5, .int (nI k5))]) hx hb dX8_weightOf_51 hl (by decide) rfl (fun ls hl => ?_)
        refine lv_aload_n hx hb dX8_weightOf_53 rfl (lv_at hl 2 rfl) ?_
        refine xget (C := RX8) (T := TX8) (N := 37) 14 hx hb hts hin8 hown I hR.1 rfl (by decide) (List.mem_of_getElem? (i := 3) rfl) rfl rfl dX8_weightOf_54 ?_
        refine lv_iload hx hb dX8_weightOf_57 (lv_at hl 6 rfl) ?_
        refine xiald (i := k5) (n := 60) hx hb I (hR.2.1 14 60 (by decide)) (by omega) (by decide) dX8_weightOf_59 ?_
        refine lv_iconst (v := (-1)) hx hb dX8_weightOf_60 (by decide) ?_
        have B88 : ∀ (v88_0 : Int32), lseq (fX8_weightOf_B88 σ m1 y1 k5 a5_3 v42_0 v88_0) (fun q => fX8_weightOf_L5 σ m1 y1 n5 (k5 + 1) q) = G → ∀ ls : Array Slot, lv_has ls 10 [(0, .ref r), (1, .int (nI m1)), (2, .int (nI y1)), (3, .long a5_3), (5, .int (nI k5)), (6, .int v42_0)] → W p l e (headSpec wsX8_weightOf ({ frames := 0, cells := 0, slots := 0, locals := 0 } : Room)).room s m ([.ref r, .int (nI m1), .int (nI y1)] : List Value).toArray below meth c s.heap [] 0 0 (MQ below (xR (some (.long G))) ([.ref r, .int (nI m1), .int (nI y1)] : List Value).toArray s 0 0 (fun _ => False)) (F0 m 88 ls [.int v88_0]) := by
          intro v88_0 hG ls hl
          unfold fX8_weightOf_B88 at hG
          refine lv_istore (lv' := [(8, .int v88_0), (0, .ref r), (1, .int (nI m1)), (2, .int (nI y1)), (3, .long a5_3), (5, .int (nI k5)), (6, .int v42_0)]) hx hb dX8_weightOf_88 hl (by decide) rfl (fun ls hl => ?_)
          refine lv_aload_n hx hb dX8_weightOf_90 rfl (lv_at hl 1 rfl) ?_
          refine xget (C := RX8) (T := TX8) (N := 37) 9 hx hb hts hin8 hown I hR.1 rfl (by decide) (List.mem_of_getElem? (i := 4) rfl) rfl rfl dX8_weightOf_91 ?_
          refine lv_aload_n hx hb dX8_weightOf_94 rfl (lv_at hl 1 rfl) ?_
          refine xget (C := RX8) (T := TX8) (N := 37) 12 hx hb hts hin8 hown I hR.1 rfl (by decide) (List.mem_of_getElem? (i := 5) rfl) rfl rfl dX8_weightOf_95 ?_
          refine lv_iload hx hb dX8_weightOf_98 (lv_at hl 5 rfl) ?_
          refine xiald (i := k5) (n := 60) hx hb I (hR.2.2.1 12 60 (by decide)) (by omega) (by decide) dX8_weightOf_100 ?_
          have b100 := w12 k5 (by omega)
          refine xiald (i := (mK σ 12 k5)) (n := 24) hx hb I (hR.2.2.1 9 24 (by decide)) (by omega) (by decide) dX8_weightOf_101 ?_
          have b101 := w9 (mK σ 12 k5) (by omega)
          refine lv_iload_n hx hb dX8_weightOf_102 rfl (lv_at hl 2 rfl) ?_
          have B118 : ∀ (v118_0 : Int32), (v118_0 = 0 ∨ v118_0 = 1) → lseq (fX8_weightOf_B118 σ m1 y1 k5 a5_3 v42_0 v88_0 v118_0) (fun q => fX8_weightOf_L5 σ m1 y1 n5 (k5 + 1) q) = G → ∀ ls : Array Slot, lv_has ls 10 [(0, .ref r), (1, .int (nI m1)), (2, .int (nI y1)), (3, .long a5_3), (5, .int (nI k5)), (6, .int v42_0), (8, .int v88_0)] → W p l e (headSpec wsX8_weightOf ({ frames := 0, cells := 0, slots := 0, locals := 0 } : Room)).room s m ([.ref r, .int (nI m1), .int (nI y1)] : List Value).toArray below meth c s.heap [] 0 0 (MQ below (xR (some (.long G))) ([.ref r, .int (nI m1), .int (nI y1)] : List Value).toArray s 0 0 (fun _ => False)) (F0 m 118 ls [.int v118_0]) := by
            intro v118_0 zv118_0 hG ls hl
            unfold fX8_weightOf_B118 at hG
            refine lv_istore (lv' := [(9, .int v118_0), (0, .ref r), (1, .int (nI m1)), (2, .int (nI y1)), (3, .long a5_3), (5, .int (nI k5)), (6, .int v42_0), (8, .int v88_0)]) hx hb dX8_weightOf_118 hl (by decide) rfl (fun ls hl => ?_)
            refine lv_lload_n hx hb dX8_weightOf_120 rfl (lv_at hl 4 rfl) ?_
            refine lv_iload hx hb dX8_weightOf_121 (lv_at hl 0 rfl) ?_
            have B150 : ∀ (v150_0 : Int64), lseq (fX8_weightOf_B150 σ m1 y1 a5_3 v150_0) (fun q => fX8_weightOf_L5 σ m1 y1 n5 (k5 + 1) q) = G → ∀ ls : Array Slot, lv_has ls 10 [(0, .ref r), (1, .int (nI m1)), (2, .int (nI y1)), (5, .int (nI k5))] → W p l e (headSpec wsX8_weightOf ({ frames := 0, cells := 0, slots := 0, locals := 0 } : Room)).room s m ([.ref r, .int (nI m1), .int (nI y1)] : List Value).toArray below meth c s.heap [] 0 0 (MQ below (xR (some (.long G))) ([.ref r, .int (nI m1), .int (nI y1)] : List Value).toArray s 0 0 (fun _ => False)) (F0 m 150 ls [.long v150_0, .long a5_3]) := by
              intro v150_0 hG ls hl
              unfold fX8_weightOf_B150 at hG
              refine lv_ladd hx hb dX8_weightOf_150 ?_
              refine lv_lstore_n (lv' := [(3, .long (a5_3 + v150_0)), (0, .ref r), (1, .int (nI m1)), (2, .int (nI y1)), (5, .int (nI k5))]) hx hb dX8_weightOf_151 rfl hl (by decide) rfl (fun ls hl => ?_)
              refine lv_iinc (v := (nI (k5 + 1))) (lv' := [(5, .int (nI (k5 + 1))), (3, .long (a5_3 + v150_0)), (0, .ref r), (1, .int (nI m1)), (2, .int (nI y1))]) hx hb dX8_weightOf_152 hl (k := 4) rfl (nI_succ k5).symm (by decide) rfl (fun ls hl => ?_)
              refine lv_goto (tgt := 5) hx hb dX8_weightOf_155 (by decide) ?_
              exact ih (k5 + 1) (a5_3 + v150_0) (by omega) hG ls (lv_sub hl [2, 3, 4, 1, 0] rfl)
            refine lv_if_eq (tgt := 149) hx hb dX8_weightOf_123 (by decide) (fun c_123 => ?_) (fun c_123 => ?_)
            · skip
              rw [if_pos c_123] at hG
              refine lv_lconst (v := (0 : Int64)) hx hb dX8_weightOf_149 rfl ?_
              exact B150 (0 : Int64) hG ls (lv_sub hl [1, 2, 3, 5] rfl)
            · skip
              rw [if_neg c_123] at hG
              refine lv_aload_n hx hb dX8_weightOf_126 rfl (lv_at hl 1 rfl) ?_
              refine xget (C := RX8) (T := TX8) (N := 37) 10 hx hb hts hin8 hown I hR.1 rfl (by decide) (List.mem_of_getElem? (i := 6) rfl) rfl rfl dX8_weightOf_127 ?_
              refine lv_aload_n hx hb dX8_weightOf_130 rfl (lv_at hl 1 rfl) ?_
              refine xget (C := RX8) (T := TX8) (N := 37) 12 hx hb hts hin8 hown I hR.1 rfl (by decide) (List.mem_of_getElem? (i := 5) rfl) rfl rfl dX8_weightOf_131 ?_
              refine lv_iload hx hb dX8_weightOf_134 (lv_at hl 5 rfl) ?_
              refine xiald (i := k5) (n := 60) hx hb I (hR.2.2.1 12 60 (by decide)) (by omega) (by decide) dX8_weightOf_136 ?_
              have b136 := w12 k5 (by omega)
              refine xiald (i := (mK σ 12 k5)) (n := 24) hx hb I (hR.2.1 10 24 (by decide)) (by omega) (by decide) dX8_weightOf_137 ?_
              refine lv_i2l (v := (mI σ 10 (mK σ 12 k5)).toInt64) hx hb dX8_weightOf_138 rfl ?_
              refine lv_iload hx hb dX8_weightOf_139 (lv_at hl 7 rfl) ?_
              refine lv_iload hx hb dX8_weightOf_141 (lv_at hl 6 rfl) ?_
              refine lv_isub hx hb dX8_weightOf_143 ?_
              refine lv_i2l (v := (v88_0 - v42_0).toInt64) hx hb dX8_weightOf_144 rfl ?_
              refine lv_lmul hx hb dX8_weightOf_145 ?_
              refine lv_goto (tgt := 150) hx hb dX8_weightOf_146 (by decide) ?_
              exact B150 ((mI σ 10 (mK σ 12 k5)).toInt64 * (v88_0 - v42_0).toInt64) hG ls (lv_sub hl [1, 2, 3, 5] rfl)
          refine lv_icmp_ne (tgt := 117) hx hb dX8_weightOf_103 (by decide) (fun c_103 => ?_) (fun c_103 => ?_)
          · skip
            rw [if_neg c_103] at hG
            refine lv_iconst (v := (nI 0)) hx hb dX8_weightOf_117 (by decide) ?_
            exact B118 (nI 0) (Or.inl rfl) hG ls (lv_sub hl [1, 2, 3, 4, 5, 6, 0] rfl)
          · skip
            rw [if_pos c_103] at hG
            refine lv_iload hx hb dX8_weightOf_106 (lv_at hl 0 rfl) ?_
            refine lv_iload hx hb dX8_weightOf_108 (lv_at hl 6 rfl) ?_
            refine lv_icmp_le (tgt := 117) hx hb dX8_weightOf_110 (by decide) (fun c_110 => ?_) (fun c_110 => ?_)
            · skip
              rw [if_pos c_110] at hG
              refine lv_iconst (v := (nI 0)) hx hb dX8_weightOf_117 (by decide) ?_
              exact B118 (nI 0) (Or.inl rfl) hG ls (lv_sub hl [1, 2, 3, 4, 5, 6, 0] rfl)
            · skip
              rw [if_neg c_110] at hG
              refine lv_iconst (v := (nI 1)) hx hb dX8_weightOf_113 (by decide) ?_
              refine lv_goto (tgt := 118) hx hb dX8_weightOf_114 (by decide) ?_
              exact B118 (nI 1) (Or.inr rfl) hG ls (lv_sub hl [1, 2, 3, 4, 5, 6, 0] rfl)
        refine lv_icmp_eq (tgt := 86) hx hb dX8_weightOf_61 (by decide) (fun c_61 => ?_) (fun c_61 => ?_)
        · skip
          rw [if_pos c_61] at hG
          refine lv_iload hx hb dX8_weightOf_86 (lv_at hl 0 rfl) ?_
          exact B88 (nI (100 * y1 + 100)) hG ls (lv_sub hl [2, 3, 4, 5, 6, 1] rfl)
        · skip
          rw [if_neg c_61] at hG
          refine lv_aload_n hx hb dX8_weightOf_64 rfl (lv_at hl 2 rfl) ?_
          refine xget (C := RX8) (T := TX8) (N := 37) 14 hx hb hts hin8 hown I hR.1 rfl (by decide) (List.mem_of_getElem? (i := 3) rfl) rfl rfl dX8_weightOf_65 ?_
          refine lv_iload hx hb dX8_weightOf_68 (lv_at hl 6 rfl) ?_
          refine xiald (i := k5) (n := 60) hx hb I (hR.2.1 14 60 (by decide)) (by omega) (by decide) dX8_weightOf_70 ?_
          refine lv_iload hx hb dX8_weightOf_71 (lv_at hl 0 rfl) ?_
          refine lv_icmp_ge (tgt := 86) hx hb dX8_weightOf_73 (by decide) (fun c_73 => ?_) (fun c_73 => ?_)
          · skip
            rw [if_pos c_73] at hG
            refine lv_iload hx hb dX8_weightOf_86 (lv_at hl 0 rfl) ?_
            exact B88 (nI (100 * y1 + 100)) hG ls (lv_sub hl [2, 3, 4, 5, 6, 1] rfl)
          · skip
            rw [if_neg c_73] at hG
            refine lv_aload_n hx hb dX8_weightOf_76 rfl (lv_at hl 2 rfl) ?_
            refine xget (C := RX8) (T := TX8) (N := 37) 14 hx hb hts hin8 hown I hR.1 rfl (by decide) (List.mem_of_getElem? (i := 3) rfl) rfl rfl dX8_weightOf_77 ?_
            refine lv_iload hx hb dX8_weightOf_80 (lv_at hl 6 rfl) ?_
            refine xiald (i := k5) (n := 60) hx hb I (hR.2.1 14 60 (by decide)) (by omega) (by decide) dX8_weightOf_82 ?_
            refine lv_goto (tgt := 88) hx hb dX8_weightOf_83 (by decide) ?_
            exact B88 (mI σ 14 k5) hG ls (lv_sub hl [2, 3, 4, 5, 6, 1] rfl)
      refine lv_icmp_le (tgt := 38) hx hb dX8_weightOf_25 (by decide) (fun c_25 => ?_) (fun c_25 => ?_)
      · skip
        rw [if_pos c_25] at hG
        refine lv_bipush (v := (nI 100)) hx hb dX8_weightOf_38 (by decide) ?_
        refine lv_iload_n hx hb dX8_weightOf_40 rfl (lv_at hl 2 rfl) ?_
        refine lv_imul hx hb dX8_weightOf_41 ?_
        refine xtop (y := .int (nI (100 * y1))) (congrArg Value.int (pk_mul _ _)) ?_
        exact B42 (nI (100 * y1)) hG ls (lv_sub hl [0, 1, 2, 3, 4] rfl)
      · skip
        rw [if_neg c_25] at hG
        refine lv_aload_n hx hb dX8_weightOf_28 rfl (lv_at hl 0 rfl) ?_
        refine xget (C := RX8) (T := TX8) (N := 37) 13 hx hb hts hin8 hown I hR.1 rfl (by decide) (List.mem_of_getElem? (i := 2) rfl) rfl rfl dX8_weightOf_29 ?_
        refine lv_iload hx hb dX8_weightOf_32 (lv_at hl 4 rfl) ?_
        refine xiald (i := k5) (n := 60) hx hb I (hR.2.1 13 60 (by decide)) (by omega) (by decide) dX8_weightOf_34 ?_
        refine lv_goto (tgt := 42) hx hb dX8_weightOf_35 (by decide) ?_
        exact B42 (mI σ 13 k5) hG ls (lv_sub hl [0, 1, 2, 3, 4] rfl)
  exact L5 (mN σ 11) 0 (0 : Int64) (by omega) hG ls (lv_sub hl [2, 3, 4, 1, 0] rfl)
