theorem ok_isIn {x : Int32} {a b : Nat} (hab : a < 2 ^ 31 ∧ b < 2 ^ 31) (h : ¬ fX8_isIn x (nI a) (nI b) = 0) : x = nI (tn x) ∧ a ≤ tn x ∧ tn x ≤ b := by
  unfold fX8_isIn at h
  by_cases h1 : x < nI a
  · rw [if_pos h1] at h; exact absurd rfl h
  · by_cases h2 : nI b < x
    · rw [if_neg h1, if_pos h2] at h; exact absurd rfl h
    · have h0 : ¬ x < 0 := by
        intro q
        rw [Int32.lt_iff_toInt_lt] at q h1
        rw [nI_toInt hab.1] at h1
        have h3 : (0 : Int32).toInt = 0 := rfl
        omega
      obtain ⟨j, hj, rfl⟩ := nI_of h0
      rw [tn_nI hj]
      rw [nI_ltI hj hab.1] at h1
      rw [nI_ltI hab.2 hj] at h2
      exact ⟨rfl, by omega, by omega⟩
theorem ok_isInP {x : Int32} {n : Nat} (hn : n < 2 ^ 30) (h : ¬ fX8_isIn x (nI 0) (nI n - nI 1) = 0) : x = nI (tn x) ∧ tn x < n := by
  unfold fX8_isIn at h
  by_cases h1 : x < nI 0
  · rw [if_pos h1] at h; exact absurd rfl h
  · by_cases h2 : nI n - nI 1 < x
    · rw [if_neg h1, if_pos h2] at h; exact absurd rfl h
    · obtain ⟨j, hj, rfl⟩ := nI_of h1
      rw [tn_nI hj]
      refine ⟨rfl, ?_⟩
      rw [Int32.lt_iff_toInt_lt, pk_sub_toInt hn (by decide), nI_toInt hj] at h2
      omega
theorem ok_isMember {σ : MT} (hW : MW σ) {x : Int32} (h : ¬ fX8_isMember σ x = 0) : x = nI (tn x) ∧ tn x < mN σ 2 := ok_isInP (by have := hW.1; omega) h
theorem ok_isShip {σ : MT} (hW : MW σ) {x : Int32} (h : ¬ fX8_isShip σ x = 0) : x = nI (tn x) ∧ tn x < mN σ 8 := ok_isInP (by have := hW.1; omega) h
theorem ok_isClaim {σ : MT} (hW : MW σ) {x : Int32} (h : ¬ fX8_isClaim σ x = 0) : x = nI (tn x) ∧ tn x < mN σ 20 := ok_isInP (by have := hW.1; omega) h
theorem ok_isYear {x : Int32} (h : ¬ fX8_isYear x = 0) : x = nI (tn x) ∧ tn x < 20 := by
  have q := ok_isIn (by decide) h
  exact ⟨q.1, by omega⟩
theorem ok_isKind {x : Int32} (h : ¬ fX8_isKind x = 0) : x = nI (tn x) ∧ tn x < 4 := by
  have q := ok_isIn (by decide) h
  exact ⟨q.1, by omega⟩
theorem ok_isLoss {x : Int32} (h : ¬ fX8_isLoss x = 0) : x = nI (tn x) ∧ tn x ≤ 100000000 := by
  have q := ok_isIn (by decide) h
  exact ⟨q.1, q.2.2⟩
theorem open_L (σ : MT) (s1 : Int32) : ∀ (n k : Nat) (a : Int32), k + n = mN σ 11 → (a = (-1) ∨ ∃ j, j < mN σ 11 ∧ a = nI j) → (fX8_open_L4 σ s1 n k a = (-1) ∨ ∃ j, j < mN σ 11 ∧ fX8_open_L4 σ s1 n k a = nI j) := by
  intro n
  induction n with
  | zero => intro k a _ h; exact h
  | succ n ih =>
    intro k a hk h
    refine ih (k + 1) _ (by omega) ?_
    unfold fX8_open_S4
    repeat' split
    all_goals first | exact h | exact Or.inr ⟨k, by omega, rfl⟩
theorem open_ok {σ : MT} (hW : MW σ) {s1 : Int32} (h : ¬ fX8_open σ s1 = (-1)) : fX8_open σ s1 = nI (tn (fX8_open σ s1)) ∧ tn (fX8_open σ s1) < mN σ 11 := by
  rcases open_L σ s1 (mN σ 11) 0 (-1) (by omega) (Or.inl rfl) with h1 | ⟨j, hj, h1⟩
  · exact absurd h1 h
  · have h2 : fX8_open σ s1 = nI j := h1
    have h3 := hW.1
    rw [h2, tn_nI (by omega)]
    exact ⟨rfl, hj⟩

def fX8_member (σ : MT) (th : Int32) : Int32 × MT × Int32 := (if (nI (mN σ 2)) = (nI 12) then ((nI 0), σ, (nI 1)) else (((nI (mN σ 2 + 1)) - (nI 1)), (mSK (mSI σ 5 (mN σ 2) (-1)) 2 0 (mN σ 2 + 1)), (nI 0)))
set_option maxHeartbeats 4000000 in
set_option maxRecDepth 100000 in
theorem mX8_member (l : Launch) (lo : Nat) (D : va_G) (E : Nat → ClassId) (h : XW) (σ : MT) (th : Int32) (r : Nat) (ar : Nat → Nat) (hR : RM E σ th r ar h) (hW : MW σ) : Met l yX8_member wsX8_member ({ frames := 0, cells := 0, slots := 0, locals := 0 } : Room) (xP lo D E h [.ref r]) (xQ lo D (fun v h' => v = some (.int (fX8_member σ th).1) ∧ RM E (fX8_member σ th).2.1 (fX8_member σ th).2.2 r ar h' ∧ xF r ar h h')) 0 0 (xA lo) := by
  obtain ⟨G, hG⟩ : ∃ G, fX8_member σ th = G := ⟨_, rfl⟩
  rw [hG]
  unfold fX8_member at hG
  refine Met.ofW (cc := cX8_member) (maxL := 1) (ret := (some .int)) (by decide) rfl ?_
  intro p e s m args below meth c s₁ B hml hv
  obtain ⟨rfl, I⟩ := hv
  have hx := B.exec
  have hb := B.bytes
  have hr := B.returns
  have hts := atoms_spec (ws := wsX8_member) B.pre
  have hown : s.vm.findClass RX8 = some m.cls := findClass_of_methodNamed B.named
  have hlocks := B.notSynchronized
  have hl := lv_entry ([.ref r] : List Value) (n := 1) (Nat.le_of_ble_eq_true rfl)
  rw [lg_entry_eq]
  generalize (lg_sl ([.ref r] : List Value) ++ List.replicate (1 - (lg_sl ([.ref r] : List Value)).length) Slot.unset).toArray = ls at hl ⊢
  have hl : lv_has ls 1 [(0, .ref r)] := hl
  have hin8 : ∀ w ∈ u_ws RX8 TX8 37, w ∈ wsX8_member := fun _ h => List.mem_cons_of_mem _ (List.mem_append_right _ (h))
  have hW0 := hW
  obtain ⟨⟨w1, w2, w3, w4, w5, w6, w7⟩, w9, w12, w21, w22, w23, w25, w31, z26, z27, z28, z36⟩ := id hW
  have hS : va_S (xA lo) s.heap s.heap [] := va_S.rf
  have hF : xF r ar h h := xF.rf
  refine lv_aload_n hx hb dX8_member_0 rfl (lv_at hl 0 rfl) ?_
  refine lv_aload_n hx hb dX8_member_1 rfl (lv_at hl 0 rfl) ?_
  refine xget (C := RX8) (T := TX8) (N := 37) 2 hx hb hts hin8 hown I hR.1 rfl (by decide) (List.mem_of_getElem? (i := 1) rfl) rfl rfl dX8_member_2 ?_
  refine lv_bipush (v := (nI 12)) hx hb dX8_member_5 (by decide) ?_
  refine lv_icmp_ne (tgt := 14) hx hb dX8_member_7 (by decide) (fun c_7 => ?_) (fun c_7 => ?_)
  · skip
    rw [if_neg c_7] at hG
    have d_7 : ¬ (mN σ 2) = 12 := fun q => c_7 ((nI_eq (by omega) (by omega)).mpr q)
    refine lv_iconst (v := (nI 0)) hx hb dX8_member_14 (by decide) ?_
    refine xputM 0 hx hb hts hin8 hown I hS hR hF (by decide) (List.mem_of_getElem? (i := 2) rfl) rfl rfl rfl rfl rfl (hR.putTh _) dX8_member_15 (fun H locs hw I hR hF hS => ?_)
    refine lv_aload_n hx hb dX8_member_18 rfl (lv_at hl 0 rfl) ?_
    refine xget (C := RX8) (T := TX8) (N := 37) 0 hx hb hts hin8 hown I hR.1 rfl (by decide) (List.mem_of_getElem? (i := 2) rfl) rfl rfl dX8_member_19 ?_
    refine lv_if_le (tgt := 27) hx hb dX8_member_22 (by decide) (fun _ => ?_) (fun q => absurd (by decide) q)
    refine lv_aload_n hx hb dX8_member_27 rfl (lv_at hl 0 rfl) ?_
    refine xget (C := RX8) (T := TX8) (N := 37) 5 hx hb hts hin8 hown I hR.1 rfl (by decide) (List.mem_of_getElem? (i := 3) rfl) rfl rfl dX8_member_28 ?_
    refine lv_aload_n hx hb dX8_member_31 rfl (lv_at hl 0 rfl) ?_
    refine xget (C := RX8) (T := TX8) (N := 37) 2 hx hb hts hin8 hown I hR.1 rfl (by decide) (List.mem_of_getElem? (i := 1) rfl) rfl rfl dX8_member_32 ?_
    refine lv_iconst (v := (-1)) hx hb dX8_member_35 (by decide) ?_
    refine xiM (i := (mN σ 2)) (n := 12) 5 hx hb I hS hR hF (by decide) (by omega) (by decide) dX8_member_36 (fun H locs hw I hR hF hS => ?_)
    have hW := hW.sI (k := 5) (by decide) (mN σ 2) (-1)
    refine lv_aload_n hx hb dX8_member_37 rfl (lv_at hl 0 rfl) ?_
    refine lv_dup hx hb dX8_member_38 rfl ?_
    refine xget (C := RX8) (T := TX8) (N := 37) 2 hx hb hts hin8 hown I hR.1 rfl (by decide) (List.mem_of_getElem? (i := 1) rfl) rfl rfl dX8_member_39 ?_
    refine lv_iconst (v := (nI 1)) hx hb dX8_member_42 (by decide) ?_
    refine lv_iadd hx hb dX8_member_43 ?_
    refine xtop (y := .int (nI (mN σ 2 + 1))) (congrArg Value.int (nI_add _ _)) ?_
    refine xputM 2 hx hb hts hin8 hown I hS hR hF (by decide) (List.mem_of_getElem? (i := 1) rfl) rfl rfl rfl rfl rfl (hR.putN (by decide) (mN σ 2 + 1)) dX8_member_44 (fun H locs hw I hR hF hS => ?_)
    refine lv_aload_n hx hb dX8_member_47 rfl (lv_at hl 0 rfl) ?_
    refine xget (C := RX8) (T := TX8) (N := 37) 2 hx hb hts hin8 hown I hR.1 rfl (by decide) (List.mem_of_getElem? (i := 1) rfl) rfl rfl dX8_member_48 ?_
    refine lv_iconst (v := (nI 1)) hx hb dX8_member_51 (by decide) ?_
    refine lv_isub hx hb dX8_member_52 ?_
    subst hG
    exact xriQ hx hb hr hlocks dX8_member_53 I hS ⟨rfl, hR, hF⟩
  · skip
    rw [if_pos c_7] at hG
    have d_7 : (mN σ 2) = 12 := (nI_eq (by omega) (by omega)).mp c_7
    refine lv_iconst (v := (nI 1)) hx hb dX8_member_10 (by decide) ?_
    refine lv_goto (tgt := 15) hx hb dX8_member_11 (by decide) ?_
    refine xputM 0 hx hb hts hin8 hown I hS hR hF (by decide) (List.mem_of_getElem? (i := 2) rfl) rfl rfl rfl rfl rfl (hR.putTh _) dX8_member_15 (fun H locs hw I hR hF hS => ?_)
    refine lv_aload_n hx hb dX8_member_18 rfl (lv_at hl 0 rfl) ?_
    refine xget (C := RX8) (T := TX8) (N := 37) 0 hx hb hts hin8 hown I hR.1 rfl (by decide) (List.mem_of_getElem? (i := 2) rfl) rfl rfl dX8_member_19 ?_
    refine lv_if_le (tgt := 27) hx hb dX8_member_22 (by decide) (fun q => absurd q (by decide)) (fun _ => ?_)
    refine lv_iconst (v := (nI 0)) hx hb dX8_member_25 (by decide) ?_
    subst hG
    exact xriQ hx hb hr hlocks dX8_member_26 I hS ⟨rfl, hR, hF⟩

def fX8_ship (σ : MT) (th : Int32) (a1 : Int32) (a2 : Int32) : Int32 × MT × Int32 := (if (fX8_isMember σ a1) = 0 then ((nI 0), σ, (nI 1)) else (if (fX8_isIn a2 (nI 1) (nI 999)) = 0 then ((nI 0), σ, (nI 2)) else (if (nI (mN σ 8)) = (nI 24) then ((nI 0), σ, (nI 3)) else (((nI (mN σ 8 + 1)) - (nI 1)), (mSK (mSI (mSK σ 9 (mN σ 8) (tn a1)) 10 (mN σ 8) (nI (tn a2))) 8 0 (mN σ 8 + 1)), (nI 0)))))
set_option maxHeartbeats 4000000 in
set_option maxRecDepth 100000 in
theorem mX8_ship (l : Launch) (lo : Nat) (D : va_G) (E : Nat → ClassId) (h : XW) (σ : MT) (th : Int32) (r : Nat) (ar : Nat → Nat) (hR : RM E σ th r ar h) (hW : MW σ) (a1 : Int32) (a2 : Int32) : Met l yX8_ship wsX8_ship ({ frames := 2, cells := 0, slots := 0, locals := 43 } : Room) (xP lo D E h [.ref r, .int a1, .int a2]) (xQ lo D (fun v h' => v = some (.int (fX8_ship σ th a1 a2).1) ∧ RM E (fX8_ship σ th a1 a2).2.1 (fX8_ship σ th a1 a2).2.2 r ar h' ∧ xF r ar h h')) 0 0 (xA lo) := by
  obtain ⟨G, hG⟩ : ∃ G, fX8_ship σ th a1 a2 = G := ⟨_, rfl⟩
  rw [hG]
  unfold fX8_ship at hG
  refine Met.ofW (cc := cX8_ship) (maxL := 3) (ret := (some .int)) (by decide) rfl ?_
  intro p e s m args below meth c s₁ B hml hv
  obtain ⟨rfl, I⟩ := hv
  have hx := B.exec
  have hb := B.bytes
  have hr := B.returns
  have hts := atoms_spec (ws := wsX8_ship) B.pre
  have hown : s.vm.findClass RX8 = some m.cls := findClass_of_methodNamed B.named
  have hlocks := B.notSynchronized
  have hl := lv_entry ([.ref r, .int a1, .int a2] : List Value) (n := 3) (Nat.le_of_ble_eq_true rfl)
  rw [lg_entry_eq]
  generalize (lg_sl ([.ref r, .int a1, .int a2] : List Value) ++ List.replicate (3 - (lg_sl ([.ref r, .int a1, .int a2] : List Value)).length) Slot.unset).toArray = ls at hl ⊢
  have hl : lv_has ls 3 [(0, .ref r), (1, .int a1), (2, .int a2)] := hl
  have hin8 : ∀ w ∈ u_ws RX8 TX8 37, w ∈ wsX8_ship := fun _ h => List.mem_cons_of_mem _ (List.mem_append_right _ (h))
  have hW0 := hW
  obtain ⟨⟨w1, w2, w3, w4, w5, w6, w7⟩, w9, w12, w21, w22, w23, w25, w31, z26, z27, z28, z36⟩ := id hW
  have hS : va_S (xA lo) s.heap s.heap [] := va_S.rf
  have hF : xF r ar h h := xF.rf
  refine lv_aload_n hx hb dX8_ship_0 rfl (lv_at hl 0 rfl) ?_
  refine lv_aload_n hx hb dX8_ship_1 rfl (lv_at hl 0 rfl) ?_
  refine lv_iload_n hx hb dX8_ship_2 rfl (lv_at hl 1 rfl) ?_
  refine xcvR (As := [.int a1]) (rest := [.ref r]) (v := some (.int (fX8_isMember σ a1))) ⟨hx, hb, hml, hown, hts⟩ (mX8_isMember l lo D E h σ th r ar hR hW a1  ) (cwV 1 hts gX8_ship_X8_isMember rfl rfl rfl (by decide +kernel) ⟨Nat.le_of_ble_eq_true rfl, Nat.le_of_ble_eq_true rfl⟩) I hR.1 rfl rfl hl.1 rfl (Nat.le_of_ble_eq_true rfl) dX8_ship_3 ⟨Nat.le_of_ble_eq_true rfl, Nat.le_of_ble_eq_true rfl⟩ ?_
  refine W.eq (g2 := F0 m 6 ls [.int (fX8_isMember σ a1), .ref r]) rfl ?_
  refine lv_if_ne (tgt := 13) hx hb dX8_ship_6 (by decide) (fun c_6 => ?_) (fun c_6 => ?_)
  · skip
    rw [if_neg c_6] at hG
    obtain ⟨e_a1, l_a1⟩ := ok_isMember hW c_6
    refine lv_iload_n hx hb dX8_ship_13 rfl (lv_at hl 2 rfl) ?_
    refine lv_iconst (v := (nI 1)) hx hb dX8_ship_14 (by decide) ?_
    refine lv_sipush (v := (nI 999)) hx hb dX8_ship_15 (by decide) ?_
    refine xcsR (As := [.int a2, .int (nI 1), .int (nI 999)]) (rest := [.ref r]) (v := some (.int (fX8_isIn a2 (nI 1) (nI 999)))) ⟨hx, hb, hml, hown, hts⟩ (mX8_isIn l lo D E h  a2 (nI 1) (nI 999)  ) (va_cwS 3 hts gX8_ship_X8_isIn rfl rfl rfl (by decide +kernel) ⟨Nat.le_of_ble_eq_true rfl, Nat.le_of_ble_eq_true rfl⟩) I rfl hl.1 rfl (Nat.le_of_ble_eq_true rfl) dX8_ship_18 ⟨Nat.le_of_ble_eq_true rfl, Nat.le_of_ble_eq_true rfl⟩ ?_
    refine W.eq (g2 := F0 m 21 ls [.int (fX8_isIn a2 (nI 1) (nI 999)), .ref r]) rfl ?_
    refine lv_if_ne (tgt := 28) hx hb dX8_ship_21 (by decide) (fun c_21 => ?_) (fun c_21 => ?_)
    · skip
      rw [if_neg c_21] at hG
      obtain ⟨e_a2, l_a2⟩ := ok_isIn (by decide) c_21
      refine lv_aload_n hx hb dX8_ship_28 rfl (lv_at hl 0 rfl) ?_
      refine xget (C := RX8) (T := TX8) (N := 37) 8 hx hb hts hin8 hown I hR.1 rfl (by decide) (List.mem_of_getElem? (i := 1) rfl) rfl rfl dX8_ship_29 ?_
      refine lv_bipush (v := (nI 24)) hx hb dX8_ship_32 (by decide) ?_
      refine lv_icmp_ne (tgt := 41) hx hb dX8_ship_34 (by decide) (fun c_34 => ?_) (fun c_34 => ?_)
      · skip
        rw [if_neg c_34] at hG
        have d_34 : ¬ (mN σ 8) = 24 := fun q => c_34 ((nI_eq (by omega) (by omega)).mpr q)
        refine lv_iconst (v := (nI 0)) hx hb dX8_ship_41 (by decide) ?_
        refine xputM 0 hx hb hts hin8 hown I hS hR hF (by decide) (List.mem_of_getElem? (i := 2) rfl) rfl rfl rfl rfl rfl (hR.putTh _) dX8_ship_42 (fun H locs hw I hR hF hS => ?_)
        refine lv_aload_n hx hb dX8_ship_45 rfl (lv_at hl 0 rfl) ?_
        refine xget (C := RX8) (T := TX8) (N := 37) 0 hx hb hts hin8 hown I hR.1 rfl (by decide) (List.mem_of_getElem? (i := 2) rfl) rfl rfl dX8_ship_46 ?_
        refine lv_if_le (tgt := 54) hx hb dX8_ship_49 (by decide) (fun _ => ?_) (fun q => absurd (by decide) q)
        refine lv_aload_n hx hb dX8_ship_54 rfl (lv_at hl 0 rfl) ?_
        refine xget (C := RX8) (T := TX8) (N := 37) 9 hx hb hts hin8 hown I hR.1 rfl (by decide) (List.mem_of_getElem? (i := 3) rfl) rfl rfl dX8_ship_55 ?_
        refine lv_aload_n hx hb dX8_ship_58 rfl (lv_at hl 0 rfl) ?_
        refine xget (C := RX8) (T := TX8) (N := 37) 8 hx hb hts hin8 hown I hR.1 rfl (by decide) (List.mem_of_getElem? (i := 1) rfl) rfl rfl dX8_ship_59 ?_
        refine lv_iload_n hx hb dX8_ship_62 rfl (lv_at hl 1 rfl) ?_
        refine xtop (y := .int (nI (tn a1))) (congrArg Value.int e_a1) ?_
        refine xkM (i := (mN σ 8)) (n := 24) 9 hx hb I hS hR hF (by decide) (by omega) (by decide) dX8_ship_63 (fun H locs hw I hR hF hS => ?_)
        refine lv_aload_n hx hb dX8_ship_64 rfl (lv_at hl 0 rfl) ?_
        refine xget (C := RX8) (T := TX8) (N := 37) 10 hx hb hts hin8 hown I hR.1 rfl (by decide) (List.mem_of_getElem? (i := 4) rfl) rfl rfl dX8_ship_65 ?_
        refine lv_aload_n hx hb dX8_ship_68 rfl (lv_at hl 0 rfl) ?_
        refine xget (C := RX8) (T := TX8) (N := 37) 8 hx hb hts hin8 hown I hR.1 rfl (by decide) (List.mem_of_getElem? (i := 1) rfl) rfl rfl dX8_ship_69 ?_
        refine lv_iload_n hx hb dX8_ship_72 rfl (lv_at hl 2 rfl) ?_
        refine xtop (y := .int (nI (tn a2))) (congrArg Value.int e_a2) ?_
        refine xiM (i := (mN σ 8)) (n := 24) 10 hx hb I hS hR hF (by decide) (by omega) (by decide) dX8_ship_73 (fun H locs hw I hR hF hS => ?_)
        refine lv_aload_n hx hb dX8_ship_74 rfl (lv_at hl 0 rfl) ?_
        refine lv_dup hx hb dX8_ship_75 rfl ?_
        refine xget (C := RX8) (T := TX8) (N := 37) 8 hx hb hts hin8 hown I hR.1 rfl (by decide) (List.mem_of_getElem? (i := 1) rfl) rfl rfl dX8_ship_76 ?_
        refine lv_iconst (v := (nI 1)) hx hb dX8_ship_79 (by decide) ?_
        refine lv_iadd hx hb dX8_ship_80 ?_
        refine xtop (y := .int (nI (mN σ 8 + 1))) (congrArg Value.int (nI_add _ _)) ?_
        refine xputM 8 hx hb hts hin8 hown I hS hR hF (by decide) (List.mem_of_getElem? (i := 1) rfl) rfl rfl rfl rfl rfl (hR.putN (by decide) (mN σ 8 + 1)) dX8_ship_81 (fun H locs hw I hR hF hS => ?_)
        refine lv_aload_n hx hb dX8_ship_84 rfl (lv_at hl 0 rfl) ?_
        refine xget (C := RX8) (T := TX8) (N := 37) 8 hx hb hts hin8 hown I hR.1 rfl (by decide) (List.mem_of_getElem? (i := 1) rfl) rfl rfl dX8_ship_85 ?_
        refine lv_iconst (v := (nI 1)) hx hb dX8_ship_88 (by decide) ?_
        refine lv_isub hx hb dX8_ship_89 ?_
        subst hG
        exact xriQ hx hb hr hlocks dX8_ship_90 I hS ⟨rfl, hR, hF⟩
      · skip
        rw [if_pos c_34] at hG
        have d_34 : (mN σ 8) = 24 := (nI_eq (by omega) (by omega)).mp c_34
        refine lv_iconst (v := (nI 3)) hx hb dX8_ship_37 (by decide) ?_
        refine lv_goto (tgt := 42) hx hb dX8_ship_38 (by decide) ?_
        refine xputM 0 hx hb hts hin8 hown I hS hR hF (by decide) (List.mem_of_getElem? (i := 2) rfl) rfl rfl rfl rfl rfl (hR.putTh _) dX8_ship_42 (fun H locs hw I hR hF hS => ?_)
        refine lv_aload_n hx hb dX8_ship_45 rfl (lv_at hl 0 rfl) ?_
        refine xget (C := RX8) (T := TX8) (N := 37) 0 hx hb hts hin8 hown I hR.1 rfl (by decide) (List.mem_of_getElem? (i := 2) rfl) rfl rfl dX8_ship_46 ?_
        refine lv_if_le (tgt := 54) hx hb dX8_ship_49 (by decide) (fun q => absurd q (by decide)) (fun _ => ?_)
        refine lv_iconst (v := (nI 0)) hx hb dX8_ship_52 (by decide) ?_
        subst hG
        exact xriQ hx hb hr hlocks dX8_ship_53 I hS ⟨rfl, hR, hF⟩
    · skip
      rw [if_pos c_21] at hG
      refine lv_iconst (v := (nI 2)) hx hb dX8_ship_24 (by decide) ?_
      refine lv_goto (tgt := 42) hx hb dX8_ship_25 (by decide) ?_
      refine xputM 0 hx hb hts hin8 hown I hS hR hF (by decide) (List.mem_of_getElem? (i := 2) rfl) rfl rfl rfl rfl rfl (hR.putTh _) dX8_ship_42 (fun H locs hw I hR hF hS => ?_)
      refine lv_aload_n hx hb dX8_ship_45 rfl (lv_at hl 0 rfl) ?_
      refine xget (C := RX8) (T := TX8) (N := 37) 0 hx hb hts hin8 hown I hR.1 rfl (by decide) (List.mem_of_getElem? (i := 2) rfl) rfl rfl dX8_ship_46 ?_
      refine lv_if_le (tgt := 54) hx hb dX8_ship_49 (by decide) (fun q => absurd q (by decide)) (fun _ => ?_)
      refine lv_iconst (v := (nI 0)) hx hb dX8_ship_52 (by decide) ?_
      subst hG
      exact xriQ hx hb hr hlocks dX8_ship_53 I hS ⟨rfl, hR, hF⟩
  · skip
    rw [if_pos c_6] at hG
    refine lv_iconst (v := (nI 1)) hx hb dX8_ship_9 (by decide) ?_
    refine lv_goto (tgt := 42) hx hb dX8_ship_10 (by decide) ?_
    refine xputM 0 hx hb hts hin8 hown I hS hR hF (by decide) (List.mem_of_getElem? (i := 2) rfl) rfl rfl rfl rfl rfl (hR.putTh _) dX8_ship_42 (fun H locs hw I hR hF hS => ?_)
    refine lv_aload_n hx hb dX8_ship_45 rfl (lv_at hl 0 rfl) ?_
    refine xget (C := RX8) (T := TX8) (N := 37) 0 hx hb hts hin8 hown I hR.1 rfl (by decide) (List.mem_of_getElem? (i := 2) rfl) rfl rfl dX8_ship_46 ?_
    refine lv_if_le (tgt := 54) hx hb dX8_ship_49 (by decide) (fun q => absurd q (by decide)) (fun _ => ?_)
    refine lv_iconst (v := (nI 0)) hx hb dX8_ship_52 (by decide) ?_
    subst hG
    exact xriQ hx hb hr hlocks dX8_ship_53 I hS ⟨rfl, hR, hF⟩

def fX8_pass (σ : MT) (th : Int32) (a1 : Int32) : Int32 × MT × Int32 := (if (fX8_isIn a1 (nI 1) (nI 200)) = 0 then ((nI 0), σ, (nI 1)) else (if (nI (mN σ 1 + (tn a1))) ≤ (nI 1999) then ((nI (mN σ 1 + (tn a1))), (mSK σ 1 0 (mN σ 1 + (tn a1))), (nI 0)) else ((nI 0), σ, (nI 2))))
set_option maxHeartbeats 4000000 in
set_option maxRecDepth 100000 in
theorem mX8_pass (l : Launch) (lo : Nat) (D : va_G) (E : Nat → ClassId) (h : XW) (σ : MT) (th : Int32) (r : Nat) (ar : Nat → Nat) (hR : RM E σ th r ar h) (hW : MW σ) (a1 : Int32) : Met l yX8_pass wsX8_pass ({ frames := 1, cells := 0, slots := 0, locals := 22 } : Room) (xP lo D E h [.ref r, .int a1]) (xQ lo D (fun v h' => v = some (.int (fX8_pass σ th a1).1) ∧ RM E (fX8_pass σ th a1).2.1 (fX8_pass σ th a1).2.2 r ar h' ∧ xF r ar h h')) 0 0 (xA lo) := by
  obtain ⟨G, hG⟩ : ∃ G, fX8_pass σ th a1 = G := ⟨_, rfl⟩
  rw [hG]
  unfold fX8_pass at hG
  refine Met.ofW (cc := cX8_pass) (maxL := 2) (ret := (some .int)) (by decide) rfl ?_
  intro p e s m args below meth c s₁ B hml hv
  obtain ⟨rfl, I⟩ := hv
  have hx := B.exec
  have hb := B.bytes
  have hr := B.returns
  have hts := atoms_spec (ws := wsX8_pass) B.pre
  have hown : s.vm.findClass RX8 = some m.cls := findClass_of_methodNamed B.named
  have hlocks := B.notSynchronized
  have hl := lv_entry ([.ref r, .int a1] : List Value) (n := 2) (Nat.le_of_ble_eq_true rfl)
  rw [lg_entry_eq]
  generalize (lg_sl ([.ref r, .int a1] : List Value) ++ List.replicate (2 - (lg_sl ([.ref r, .int a1] : List Value)).length) Slot.unset).toArray = ls at hl ⊢
  have hl : lv_has ls 2 [(0, .ref r), (1, .int a1)] := hl
  have hin8 : ∀ w ∈ u_ws RX8 TX8 37, w ∈ wsX8_pass := fun _ h => List.mem_cons_of_mem _ (List.mem_append_right _ (h))
  have hW0 := hW
  obtain ⟨⟨w1, w2, w3, w4, w5, w6, w7⟩, w9, w12, w21, w22, w23, w25, w31, z26, z27, z28, z36⟩ := id hW
  have hS : va_S (xA lo) s.heap s.heap [] := va_S.rf
  have hF : xF r ar h h := xF.rf
  refine lv_aload_n hx hb dX8_pass_0 rfl (lv_at hl 0 rfl) ?_
  refine lv_iload_n hx hb dX8_pass_1 rfl (lv_at hl 1 rfl) ?_
  refine lv_iconst (v := (nI 1)) hx hb dX8_pass_2 (by decide) ?_
  refine lv_sipush (v := (nI 200)) hx hb dX8_pass_3 (by decide) ?_
  refine xcsR (As := [.int a1, .int (nI 1), .int (nI 200)]) (rest := [.ref r]) (v := some (.int (fX8_isIn a1 (nI 1) (nI 200)))) ⟨hx, hb, hml, hown, hts⟩ (mX8_isIn l lo D E h  a1 (nI 1) (nI 200)  ) (va_cwS 3 hts gX8_pass_X8_isIn rfl rfl rfl (by decide +kernel) ⟨Nat.le_of_ble_eq_true rfl, Nat.le_of_ble_eq_true rfl⟩) I rfl hl.1 rfl (Nat.le_of_ble_eq_true rfl) dX8_pass_6 ⟨Nat.le_of_ble_eq_true rfl, Nat.le_of_ble_eq_true rfl⟩ ?_
  refine W.eq (g2 := F0 m 9 ls [.int (fX8_isIn a1 (nI 1) (nI 200)), .ref r]) rfl ?_
  refine lv_if_ne (tgt := 16) hx hb dX8_pass_9 (by decide) (fun c_9 => ?_) (fun c_9 => ?_)
  · skip
    rw [if_neg c_9] at hG
    obtain ⟨e_a1, l_a1⟩ := ok_isIn (by decide) c_9
    refine lv_aload_n hx hb dX8_pass_16 rfl (lv_at hl 0 rfl) ?_
    refine xget (C := RX8) (T := TX8) (N := 37) 1 hx hb hts hin8 hown I hR.1 rfl (by decide) (List.mem_of_getElem? (i := 1) rfl) rfl rfl dX8_pass_17 ?_
    refine lv_iload_n hx hb dX8_pass_20 rfl (lv_at hl 1 rfl) ?_
    refine xtop (y := .int (nI (tn a1))) (congrArg Value.int e_a1) ?_
    refine lv_iadd hx hb dX8_pass_21 ?_
    refine xtop (y := .int (nI (mN σ 1 + (tn a1)))) (congrArg Value.int (nI_add _ _)) ?_
    refine lv_sipush (v := (nI 1999)) hx hb dX8_pass_22 (by decide) ?_
    refine lv_icmp_le (tgt := 32) hx hb dX8_pass_25 (by decide) (fun c_25 => ?_) (fun c_25 => ?_)
    · skip
      rw [if_pos c_25] at hG
      refine lv_iconst (v := (nI 0)) hx hb dX8_pass_32 (by decide) ?_
      refine xputM 0 hx hb hts hin8 hown I hS hR hF (by decide) (List.mem_of_getElem? (i := 2) rfl) rfl rfl rfl rfl rfl (hR.putTh _) dX8_pass_33 (fun H locs hw I hR hF hS => ?_)
      refine lv_aload_n hx hb dX8_pass_36 rfl (lv_at hl 0 rfl) ?_
      refine xget (C := RX8) (T := TX8) (N := 37) 0 hx hb hts hin8 hown I hR.1 rfl (by decide) (List.mem_of_getElem? (i := 2) rfl) rfl rfl dX8_pass_37 ?_
      refine lv_if_le (tgt := 45) hx hb dX8_pass_40 (by decide) (fun _ => ?_) (fun q => absurd (by decide) q)
      refine lv_aload_n hx hb dX8_pass_45 rfl (lv_at hl 0 rfl) ?_
      refine lv_dup hx hb dX8_pass_46 rfl ?_
      refine xget (C := RX8) (T := TX8) (N := 37) 1 hx hb hts hin8 hown I hR.1 rfl (by decide) (List.mem_of_getElem? (i := 1) rfl) rfl rfl dX8_pass_47 ?_
      refine lv_iload_n hx hb dX8_pass_50 rfl (lv_at hl 1 rfl) ?_
      refine xtop (y := .int (nI (tn a1))) (congrArg Value.int e_a1) ?_
      refine lv_iadd hx hb dX8_pass_51 ?_
      refine xtop (y := .int (nI (mN σ 1 + (tn a1)))) (congrArg Value.int (nI_add _ _)) ?_
      refine xputM 1 hx hb hts hin8 hown I hS hR hF (by decide) (List.mem_of_getElem? (i := 1) rfl) rfl rfl rfl rfl rfl (hR.putN (by decide) (mN σ 1 + (tn a1))) dX8_pass_52 (fun H locs hw I hR hF hS => ?_)
      refine lv_aload_n hx hb dX8_pass_55 rfl (lv_at hl 0 rfl) ?_
      refine xget (C := RX8) (T := TX8) (N := 37) 1 hx hb hts hin8 hown I hR.1 rfl (by decide) (List.mem_of_getElem? (i := 1) rfl) rfl rfl dX8_pass_56 ?_
      subst hG
      exact xriQ hx hb hr hlocks dX8_pass_59 I hS ⟨rfl, hR, hF⟩
    · skip
      rw [if_neg c_25] at hG
      refine lv_iconst (v := (nI 2)) hx hb dX8_pass_28 (by decide) ?_
      refine lv_goto (tgt := 33) hx hb dX8_pass_29 (by decide) ?_
      refine xputM 0 hx hb hts hin8 hown I hS hR hF (by decide) (List.mem_of_getElem? (i := 2) rfl) rfl rfl rfl rfl rfl (hR.putTh _) dX8_pass_33 (fun H locs hw I hR hF hS => ?_)
      refine lv_aload_n hx hb dX8_pass_36 rfl (lv_at hl 0 rfl) ?_
      refine xget (C := RX8) (T := TX8) (N := 37) 0 hx hb hts hin8 hown I hR.1 rfl (by decide) (List.mem_of_getElem? (i := 2) rfl) rfl rfl dX8_pass_37 ?_
      refine lv_if_le (tgt := 45) hx hb dX8_pass_40 (by decide) (fun q => absurd q (by decide)) (fun _ => ?_)
      refine lv_iconst (v := (nI 0)) hx hb dX8_pass_43 (by decide) ?_
      subst hG
      exact xriQ hx hb hr hlocks dX8_pass_44 I hS ⟨rfl, hR, hF⟩
  · skip
    rw [if_pos c_9] at hG
    refine lv_iconst (v := (nI 1)) hx hb dX8_pass_12 (by decide) ?_
    refine lv_goto (tgt := 33) hx hb dX8_pass_13 (by decide) ?_
    refine xputM 0 hx hb hts hin8 hown I hS hR hF (by decide) (List.mem_of_getElem? (i := 2) rfl) rfl rfl rfl rfl rfl (hR.putTh _) dX8_pass_33 (fun H locs hw I hR hF hS => ?_)
    refine lv_aload_n hx hb dX8_pass_36 rfl (lv_at hl 0 rfl) ?_
    refine xget (C := RX8) (T := TX8) (N := 37) 0 hx hb hts hin8 hown I hR.1 rfl (by decide) (List.mem_of_getElem? (i := 2) rfl) rfl rfl dX8_pass_37 ?_
    refine lv_if_le (tgt := 45) hx hb dX8_pass_40 (by decide) (fun q => absurd q (by decide)) (fun _ => ?_)
    refine lv_iconst (v := (nI 0)) hx hb dX8_pass_43 (by decide) ?_
    subst hG
    exact xriQ hx hb hr hlocks dX8_pass_44 I hS ⟨rfl, hR, hF⟩

def fX8_day (σ : MT) (th : Int32) : Int32 × MT × Int32 := ((nI (mN σ 1)), σ, (nI 0))
set_option maxHeartbeats 4000000 in
set_option maxRecDepth 100000 in
theorem mX8_day (l : Launch) (lo : Nat) (D : va_G) (E : Nat → ClassId) (h : XW) (σ : MT) (th : Int32) (r : Nat) (ar : Nat → Nat) (hR : RM E σ th r ar h) (hW : MW σ) : Met l yX8_day wsX8_day ({ frames := 0, cells := 0, slots := 0, locals := 0 } : Room) (xP lo D E h [.ref r]) (xQ lo D (fun v h' => v = some (.int (fX8_day σ th).1) ∧ RM E (fX8_day σ th).2.1 (fX8_day σ th).2.2 r ar h' ∧ xF r ar h h')) 0 0 (xA lo) := by
  obtain ⟨G, hG⟩ : ∃ G, fX8_day σ th = G := ⟨_, rfl⟩
  rw [hG]
  unfold fX8_day at hG
  refine Met.ofW (cc := cX8_day) (maxL := 1) (ret := (some .int)) (by decide) rfl ?_
  intro p e s m args below meth c s₁ B hml hv
  obtain ⟨rfl, I⟩ := hv
  have hx := B.exec
  have hb := B.bytes
  have hr := B.returns
  have hts := atoms_spec (ws := wsX8_day) B.pre
  have hown : s.vm.findClass RX8 = some m.cls := findClass_of_methodNamed B.named
  have hlocks := B.notSynchronized
  have hl := lv_entry ([.ref r] : List Value) (n := 1) (Nat.le_of_ble_eq_true rfl)
  rw [lg_entry_eq]
  generalize (lg_sl ([.ref r] : List Value) ++ List.replicate (1 - (lg_sl ([.ref r] : List Value)).length) Slot.unset).toArray = ls at hl ⊢
  have hl : lv_has ls 1 [(0, .ref r)] := hl
  have hin8 : ∀ w ∈ u_ws RX8 TX8 37, w ∈ wsX8_day := fun _ h => List.mem_cons_of_mem _ (List.mem_append_right _ (h))
  have hW0 := hW
  obtain ⟨⟨w1, w2, w3, w4, w5, w6, w7⟩, w9, w12, w21, w22, w23, w25, w31, z26, z27, z28, z36⟩ := id hW
  have hS : va_S (xA lo) s.heap s.heap [] := va_S.rf
  have hF : xF r ar h h := xF.rf
  refine lv_aload_n hx hb dX8_day_0 rfl (lv_at hl 0 rfl) ?_
  refine lv_iconst (v := (nI 0)) hx hb dX8_day_1 (by decide) ?_
  refine xputM 0 hx hb hts hin8 hown I hS hR hF (by decide) (List.mem_of_getElem? (i := 1) rfl) rfl rfl rfl rfl rfl (hR.putTh _) dX8_day_2 (fun H locs hw I hR hF hS => ?_)
  refine lv_aload_n hx hb dX8_day_5 rfl (lv_at hl 0 rfl) ?_
  refine xget (C := RX8) (T := TX8) (N := 37) 1 hx hb hts hin8 hown I hR.1 rfl (by decide) (List.mem_of_getElem? (i := 2) rfl) rfl rfl dX8_day_6 ?_
  subst hG
  exact xriQ hx hb hr hlocks dX8_day_9 I hS ⟨rfl, hR, hF⟩

def fX8_rate (σ : MT) (th : Int32) (a1 : Int32) (a2 : Int32) (a3 : Int32) : Int32 × MT × Int32 := (if (fX8_isYear a2) = 0 then (if (fX8_isMember σ a1) = 0 then ((nI 0), σ, (nI 1)) else ((nI 0), σ, (nI 2))) else (if (fX8_isIn a3 (nI 10) (nI 500)) = 0 then (if (fX8_isMember σ a1) = 0 then ((nI 0), σ, (nI 1)) else ((nI 0), σ, (nI 2))) else (if (fX8_isMember σ a1) = 0 then ((nI 0), σ, (nI 1)) else (if (mI σ 6 (20 * (tn a1) + (tn a2))) = (nI 1) then ((nI 0), σ, (nI 3)) else (if (nI (mN σ 34)) ≤ (nI (tn a2)) then ((mI σ 3 (20 * (tn a1) + (tn a2))), (mSI σ 3 (20 * (tn a1) + (tn a2)) (nI (tn a3))), (nI 0)) else ((nI 0), σ, (nI 3)))))))
set_option maxHeartbeats 4000000 in
set_option maxRecDepth 100000 in
theorem mX8_rate (l : Launch) (lo : Nat) (D : va_G) (E : Nat → ClassId) (h : XW) (σ : MT) (th : Int32) (r : Nat) (ar : Nat → Nat) (hR : RM E σ th r ar h) (hW : MW σ) (a1 : Int32) (a2 : Int32) (a3 : Int32) : Met l yX8_rate wsX8_rate ({ frames := 2, cells := 0, slots := 0, locals := 43 } : Room) (xP lo D E h [.ref r, .int a1, .int a2, .int a3]) (xQ lo D (fun v h' => v = some (.int (fX8_rate σ th a1 a2 a3).1) ∧ RM E (fX8_rate σ th a1 a2 a3).2.1 (fX8_rate σ th a1 a2 a3).2.2 r ar h' ∧ xF r ar h h')) 0 0 (xA lo) := by
  obtain ⟨G, hG⟩ : ∃ G, fX8_rate σ th a1 a2 a3 = G := ⟨_, rfl⟩
  rw [hG]
  unfold fX8_rate at hG
  refine Met.ofW (cc := cX8_rate) (maxL := 7) (ret := (some .int)) (by decide) rfl ?_
  intro p e s m args below meth c s₁ B hml hv
  obtain ⟨rfl, I⟩ := hv
  have hx := B.exec
  have hb := B.bytes
  have hr := B.returns
  have hts := atoms_spec (ws := wsX8_rate) B.pre
  have hown : s.vm.findClass RX8 = some m.cls := findClass_of_methodNamed B.named
  have hlocks := B.notSynchronized
  have hl := lv_entry ([.ref r, .int a1, .int a2, .int a3] : List Value) (n := 7) (Nat.le_of_ble_eq_true rfl)
  rw [lg_entry_eq]
  generalize (lg_sl ([.ref r, .int a1, .int a2, .int a3] : List Value) ++ List.replicate (7 - (lg_sl ([.ref r, .int a1, .int a2, .int a3] : List Value)).length) Slot.unset).toArray = ls at hl ⊢
  have hl : lv_has ls 7 [(0, .ref r), (1, .int a1), (2, .int a2), (3, .int a3)] := hl
  have hin8 : ∀ w ∈ u_ws RX8 TX8 37, w ∈ wsX8_rate := fun _ h => List.mem_cons_of_mem _ (List.mem_append_right _ (h))
  have hW0 := hW
  obtain ⟨⟨w1, w2, w3, w4, w5, w6, w7⟩, w9, w12, w21, w22, w23, w25, w31, z26, z27, z28, z36⟩ := id hW
  have hS : va_S (xA lo) s.heap s.heap [] := va_S.rf
  have hF : xF r ar h h := xF.rf
  refine lv_aload_n hx hb dX8_rate_0 rfl (lv_at hl 0 rfl) ?_
  refine lv_iload_n hx hb dX8_rate_1 rfl (lv_at hl 1 rfl) ?_
  refine xcvR (As := [.int a1]) (rest := []) (v := some (.int (fX8_isMember σ a1))) ⟨hx, hb, hml, hown, hts⟩ (mX8_isMember l lo D E h σ th r ar hR hW a1  ) (cwV 1 hts gX8_rate_X8_isMember rfl rfl rfl (by decide +kernel) ⟨Nat.le_of_ble_eq_true rfl, Nat.le_of_ble_eq_true rfl⟩) I hR.1 rfl rfl hl.1 rfl (Nat.le_of_ble_eq_true rfl) dX8_rate_2 ⟨Nat.le_of_ble_eq_true rfl, Nat.le_of_ble_eq_true rfl⟩ ?_
  refine W.eq (g2 := F0 m 5 ls [.int (fX8_isMember σ a1)]) rfl ?_
  refine lv_istore (lv' := [(4, .int (fX8_isMember σ a1)), (0, .ref r), (1, .int a1), (2, .int a2), (3, .int a3)]) hx hb dX8_rate_5 hl (by decide) rfl (fun ls hl => ?_)
  refine lv_iload_n hx hb dX8_rate_7 rfl (lv_at hl 3 rfl) ?_
  refine xcsR (As := [.int a2]) (rest := []) (v := some (.int (fX8_isYear a2))) ⟨hx, hb, hml, hown, hts⟩ (mX8_isYear l lo D E h  a2  ) (va_cwS 1 hts gX8_rate_X8_isYear rfl rfl rfl (by decide +kernel) ⟨Nat.le_of_ble_eq_true rfl, Nat.le_of_ble_eq_true rfl⟩) I rfl hl.1 rfl (Nat.le_of_ble_eq_true rfl) dX8_rate_8 ⟨Nat.le_of_ble_eq_true rfl, Nat.le_of_ble_eq_true rfl⟩ ?_
  refine W.eq (g2 := F0 m 11 ls [.int (fX8_isYear a2)]) rfl ?_
  refine lv_if_eq (tgt := 30) hx hb dX8_rate_11 (by decide) (fun c_11 => ?_) (fun c_11 => ?_)
  · skip
    rw [if_pos c_11] at hG
    refine lv_iconst (v := (nI 0)) hx hb dX8_rate_30 (by decide) ?_
    refine lv_istore (lv' := [(5, .int (nI 0)), (4, .int (fX8_isMember σ a1)), (0, .ref r), (1, .int a1), (2, .int a2), (3, .int a3)]) hx hb dX8_rate_31 hl (by decide) rfl (fun ls hl => ?_)
    refine lv_aload_n hx hb dX8_rate_33 rfl (lv_at hl 2 rfl) ?_
    refine lv_iload hx hb dX8_rate_34 (lv_at hl 1 rfl) ?_
    refine lv_if_ne (tgt := 43) hx hb dX8_rate_36 (by decide) (fun c_36 => ?_) (fun c_36 => ?_)
    · skip
      rw [if_neg c_36] at hG
      obtain ⟨e_a1, l_a1⟩ := ok_isMember hW c_36
      refine lv_iload hx hb dX8_rate_43 (lv_at hl 0 rfl) ?_
      refine lv_if_ne (tgt := 52) hx hb dX8_rate_45 (by decide) (fun q => absurd (by decide) q) (fun _ => ?_)
      refine lv_iconst (v := (nI 2)) hx hb dX8_rate_48 (by decide) ?_
      refine lv_goto (tgt := 80) hx hb dX8_rate_49 (by decide) ?_
      refine xputM 0 hx hb hts hin8 hown I hS hR hF (by decide) (List.mem_of_getElem? (i := 3) rfl) rfl rfl rfl rfl rfl (hR.putTh _) dX8_rate_80 (fun H locs hw I hR hF hS => ?_)
      refine lv_aload_n hx hb dX8_rate_83 rfl (lv_at hl 2 rfl) ?_
      refine xget (C := RX8) (T := TX8) (N := 37) 0 hx hb hts hin8 hown I hR.1 rfl (by decide) (List.mem_of_getElem? (i := 3) rfl) rfl rfl dX8_rate_84 ?_
      refine lv_if_le (tgt := 92) hx hb dX8_rate_87 (by decide) (fun q => absurd q (by decide)) (fun _ => ?_)
      refine lv_iconst (v := (nI 0)) hx hb dX8_rate_90 (by decide) ?_
      subst hG
      exact xriQ hx hb hr hlocks dX8_rate_91 I hS ⟨rfl, hR, hF⟩
    · skip
      rw [if_pos c_36] at hG
      refine lv_iconst (v := (nI 1)) hx hb dX8_rate_39 (by decide) ?_
      refine lv_goto (tgt := 80) hx hb dX8_rate_40 (by decide) ?_
      refine xputM 0 hx hb hts hin8 hown I hS hR hF (by decide) (List.mem_of_getElem? (i := 3) rfl) rfl rfl rfl rfl rfl (hR.putTh _) dX8_rate_80 (fun H locs hw I hR hF hS => ?_)
      refine lv_aload_n hx hb dX8_rate_83 rfl (lv_at hl 2 rfl) ?_
      refine xget (C := RX8) (T := TX8) (N := 37) 0 hx hb hts hin8 hown I hR.1 rfl (by decide) (List.mem_of_getElem? (i := 3) rfl) rfl rfl dX8_rate_84 ?_
      refine lv_if_le (tgt := 92) hx hb dX8_rate_87 (by decide) (fun q => absurd q (by decide)) (fun _ => ?_)
      refine lv_iconst (v := (nI 0)) hx hb dX8_rate_90 (by decide) ?_
      subst hG
      exact xriQ hx hb hr hlocks dX8_rate_91 I hS ⟨rfl, hR, hF⟩
  · skip
    rw [if_neg c_11] at hG
    obtain ⟨e_a2, l_a2⟩ := ok_isYear c_11
    refine lv_iload_n hx hb dX8_rate_14 rfl (lv_at hl 4 rfl) ?_
    refine lv_bipush (v := (nI 10)) hx hb dX8_rate_15 (by decide) ?_
    refine lv_sipush (v := (nI 500)) hx hb dX8_rate_17 (by decide) ?_
    refine xcsR (As := [.int a3, .int (nI 10), .int (nI 500)]) (rest := []) (v := some (.int (fX8_isIn a3 (nI 10) (nI 500)))) ⟨hx, hb, hml, hown, hts⟩ (mX8_isIn l lo D E h  a3 (nI 10) (nI 500)  ) (va_cwS 3 hts gX8_rate_X8_isIn rfl rfl rfl (by decide +kernel) ⟨Nat.le_of_ble_eq_true rfl, Nat.le_of_ble_eq_true rfl⟩) I rfl hl.1 rfl (Nat.le_of_ble_eq_true rfl) dX8_rate_20 ⟨Nat.le_of_ble_eq_true rfl, Nat.le_of_ble_eq_true rfl⟩ ?_
    refine W.eq (g2 := F0 m 23 ls [.int (fX8_isIn a3 (nI 10) (nI 500))]) rfl ?_
    refine lv_if_eq (tgt := 30) hx hb dX8_rate_23 (by decide) (fun c_23 => ?_) (fun c_23 => ?_)
    · skip
      rw [if_pos c_23] at hG
      refine lv_iconst (v := (nI 0)) hx hb dX8_rate_30 (by decide) ?_
      refine lv_istore (lv' := [(5, .int (nI 0)), (4, .int (fX8_isMember σ a1)), (0, .ref r), (1, .int a1), (2, .int a2), (3, .int a3)]) hx hb dX8_rate_31 hl (by decide) rfl (fun ls hl => ?_)
      refine lv_aload_n hx hb dX8_rate_33 rfl (lv_at hl 2 rfl) ?_
      refine lv_iload hx hb dX8_rate_34 (lv_at hl 1 rfl) ?_
      refine lv_if_ne (tgt := 43) hx hb dX8_rate_36 (by decide) (fun c_36 => ?_) (fun c_36 => ?_)
      · skip
        rw [if_neg c_36] at hG
        obtain ⟨e_a1, l_a1⟩ := ok_isMember hW c_36
        refine lv_iload hx hb dX8_rate_43 (lv_at hl 0 rfl) ?_
        refine lv_if_ne (tgt := 52) hx hb dX8_rate_45 (by decide) (fun q => absurd (by decide) q) (fun _ => ?_)
        refine lv_iconst (v := (nI 2)) hx hb dX8_rate_48 (by decide) ?_
        refine lv_goto (tgt := 80) hx hb dX8_rate_49 (by decide) ?_
        refine xputM 0 hx hb hts hin8 hown I hS hR hF (by decide) (List.mem_of_getElem? (i := 3) rfl) rfl rfl rfl rfl rfl (hR.putTh _) dX8_rate_80 (fun H locs hw I hR hF hS => ?_)
        refine lv_aload_n hx hb dX8_rate_83 rfl (lv_at hl 2 rfl) ?_
        refine xget (C := RX8) (T := TX8) (N := 37) 0 hx hb hts hin8 hown I hR.1 rfl (by decide) (List.mem_of_getElem? (i := 3) rfl) rfl rfl dX8_rate_84 ?_
        refine lv_if_le (tgt := 92) hx hb dX8_rate_87 (by decide) (fun q => absurd q (by decide)) (fun _ => ?_)
        refine lv_iconst (v := (nI 0)) hx hb dX8_rate_90 (by decide) ?_
        subst hG
        exact xriQ hx hb hr hlocks dX8_rate_91 I hS ⟨rfl, hR, hF⟩
      · skip
        rw [if_pos c_36] at hG
        refine lv_iconst (v := (nI 1)) hx hb dX8_rate_39 (by decide) ?_
        refine lv_goto (tgt := 80) hx hb dX8_rate_40 (by decide) ?_
        refine xputM 0 hx hb hts hin8 hown I hS hR hF (by decide) (List.mem_of_getElem? (i := 3) rfl) rfl rfl rfl rfl rfl (hR.putTh _) dX8_rate_80 (fun H locs hw I hR hF hS => ?_)
        refine lv_aload_n hx hb dX8_rate_83 rfl (lv_at hl 2 rfl) ?_
        refine xget (C := RX8) (T := TX8) (N := 37) 0 hx hb hts hin8 hown I hR.1 rfl (by decide) (List.mem_of_getElem? (i := 3) rfl) rfl rfl dX8_rate_84 ?_
        refine lv_if_le (tgt := 92) hx hb dX8_rate_87 (by decide) (fun q => absurd q (by decide)) (fun _ => ?_)
        refine lv_iconst (v := (nI 0)) hx hb dX8_rate_90 (by decide) ?_
        subst hG
        exact xriQ hx hb hr hlocks dX8_rate_91 I hS ⟨rfl, hR, hF⟩
    · skip
      rw [if_neg c_23] at hG
      obtain ⟨e_a3, l_a3⟩ := ok_isIn (by decide) c_23
      refine lv_iconst (v := (nI 1)) hx hb dX8_rate_26 (by decide) ?_
      refine lv_goto (tgt := 31) hx hb dX8_rate_27 (by decide) ?_
      refine lv_istore (lv' := [(5, .int (nI 1)), (4, .int (fX8_isMember σ a1)), (0, .ref r), (1, .int a1), (2, .int a2), (3, .int a3)]) hx hb dX8_rate_31 hl (by decide) rfl (fun ls hl => ?_)
      refine lv_aload_n hx hb dX8_rate_33 rfl (lv_at hl 2 rfl) ?_
      refine lv_iload hx hb dX8_rate_34 (lv_at hl 1 rfl) ?_
      refine lv_if_ne (tgt := 43) hx hb dX8_rate_36 (by decide) (fun c_36 => ?_) (fun c_36 => ?_)
      · skip
        rw [if_neg c_36] at hG
        obtain ⟨e_a1, l_a1⟩ := ok_isMember hW c_36
        refine lv_iload hx hb dX8_rate_43 (lv_at hl 0 rfl) ?_
        refine lv_if_ne (tgt := 52) hx hb dX8_rate_45 (by decide) (fun _ => ?_) (fun q => absurd q (by decide))
        refine lv_aload_n hx hb dX8_rate_52 rfl (lv_at hl 2 rfl) ?_
        refine xget (C := RX8) (T := TX8) (N := 37) 6 hx hb hts hin8 hown I hR.1 rfl (by decide) (List.mem_of_getElem? (i := 1) rfl) rfl rfl dX8_rate_53 ?_
        refine lv_bipush (v := (nI 20)) hx hb dX8_rate_56 (by decide) ?_
        refine lv_iload_n hx hb dX8_rate_58 rfl (lv_at hl 3 rfl) ?_
        refine xtop (y := .int (nI (tn a1))) (congrArg Value.int e_a1) ?_
        refine lv_imul hx hb dX8_rate_59 ?_
        refine xtop (y := .int (nI (20 * (tn a1)))) (congrArg Value.int (pk_mul _ _)) ?_
        refine lv_iload_n hx hb dX8_rate_60 rfl (lv_at hl 4 rfl) ?_
        refine xtop (y := .int (nI (tn a2))) (congrArg Value.int e_a2) ?_
        refine lv_iadd hx hb dX8_rate_61 ?_
        refine xtop (y := .int (nI (20 * (tn a1) + (tn a2)))) (congrArg Value.int (nI_add _ _)) ?_
        refine xiald (i := (20 * (tn a1) + (tn a2))) (n := 240) hx hb I (hR.2.1 6 240 (by decide)) (by omega) (by decide) dX8_rate_62 ?_
        refine lv_iconst (v := (nI 1)) hx hb dX8_rate_63 (by decide) ?_
        refine lv_icmp_eq (tgt := 75) hx hb dX8_rate_64 (by decide) (fun c_64 => ?_) (fun c_64 => ?_)
        · skip
          rw [if_pos c_64] at hG
          refine lv_iconst (v := (nI 3)) hx hb dX8_rate_75 (by decide) ?_
          refine lv_goto (tgt := 80) hx hb dX8_rate_76 (by decide) ?_
          refine xputM 0 hx hb hts hin8 hown I hS hR hF (by decide) (List.mem_of_getElem? (i := 3) rfl) rfl rfl rfl rfl rfl (hR.putTh _) dX8_rate_80 (fun H locs hw I hR hF hS => ?_)
          refine lv_aload_n hx hb dX8_rate_83 rfl (lv_at hl 2 rfl) ?_
          refine xget (C := RX8) (T := TX8) (N := 37) 0 hx hb hts hin8 hown I hR.1 rfl (by decide) (List.mem_of_getElem? (i := 3) rfl) rfl rfl dX8_rate_84 ?_
          refine lv_if_le (tgt := 92) hx hb dX8_rate_87 (by decide) (fun q => absurd q (by decide)) (fun _ => ?_)
          refine lv_iconst (v := (nI 0)) hx hb dX8_rate_90 (by decide) ?_
          subst hG
          exact xriQ hx hb hr hlocks dX8_rate_91 I hS ⟨rfl, hR, hF⟩
        · skip
          rw [if_neg c_64] at hG
          refine lv_iload_n hx hb dX8_rate_67 rfl (lv_at hl 4 rfl) ?_
          refine xtop (y := .int (nI (tn a2))) (congrArg Value.int e_a2) ?_
          refine lv_aload_n hx hb dX8_rate_68 rfl (lv_at hl 2 rfl) ?_
          refine xget (C := RX8) (T := TX8) (N := 37) 34 hx hb hts hin8 hown I hR.1 rfl (by decide) (List.mem_of_getElem? (i := 2) rfl) rfl rfl dX8_rate_69 ?_
          refine lv_icmp_ge (tgt := 79) hx hb dX8_rate_72 (by decide) (fun c_72 => ?_) (fun c_72 => ?_)
          · skip
            rw [if_pos c_72] at hG
            refine lv_iconst (v := (nI 0)) hx hb dX8_rate_79 (by decide) ?_
            refine xputM 0 hx hb hts hin8 hown I hS hR hF (by decide) (List.mem_of_getElem? (i := 3) rfl) rfl rfl rfl rfl rfl (hR.putTh _) dX8_rate_80 (fun H locs hw I hR hF hS => ?_)
            refine lv_aload_n hx hb dX8_rate_83 rfl (lv_at hl 2 rfl) ?_
            refine xget (C := RX8) (T := TX8) (N := 37) 0 hx hb hts hin8 hown I hR.1 rfl (by decide) (List.mem_of_getElem? (i := 3) rfl) rfl rfl dX8_rate_84 ?_
            refine lv_if_le (tgt := 92) hx hb dX8_rate_87 (by decide) (fun _ => ?_) (fun q => absurd (by decide) q)
            refine lv_aload_n hx hb dX8_rate_92 rfl (lv_at hl 2 rfl) ?_
            refine xget (C := RX8) (T := TX8) (N := 37) 3 hx hb hts hin8 hown I hR.1 rfl (by decide) (List.mem_of_getElem? (i := 4) rfl) rfl rfl dX8_rate_93 ?_
            refine lv_bipush (v := (nI 20)) hx hb dX8_rate_96 (by decide) ?_
            refine lv_iload_n hx hb dX8_rate_98 rfl (lv_at hl 3 rfl) ?_
            refine xtop (y := .int (nI (tn a1))) (congrArg Value.int e_a1) ?_
            refine lv_imul hx hb dX8_rate_99 ?_
            refine xtop (y := .int (nI (20 * (tn a1)))) (congrArg Value.int (pk_mul _ _)) ?_
            refine lv_iload_n hx hb dX8_rate_100 rfl (lv_at hl 4 rfl) ?_
            refine xtop (y := .int (nI (tn a2))) (congrArg Value.int e_a2) ?_
            refine lv_iadd hx hb dX8_rate_101 ?_
            refine xtop (y := .int (nI (20 * (tn a1) + (tn a2)))) (congrArg Value.int (nI_add _ _)) ?_
            refine xiald (i := (20 * (tn a1) + (tn a2))) (n := 240) hx hb I (hR.2.1 3 240 (by decide)) (by omega) (by decide) dX8_rate_102 ?_
            refine lv_istore (lv' := [(6, .int (mI σ 3 (20 * (tn a1) + (tn a2)))), (5, .int (nI 1)), (4, .int (fX8_isMember σ a1)), (0, .ref r), (1, .int a1), (2, .int a2), (3, .int a3)]) hx hb dX8_rate_103 hl (by decide) rfl (fun ls hl => ?_)
            refine lv_aload_n hx hb dX8_rate_105 rfl (lv_at hl 3 rfl) ?_
            refine xget (C := RX8) (T := TX8) (N := 37) 3 hx hb hts hin8 hown I hR.1 rfl (by decide) (List.mem_of_getElem? (i := 4) rfl) rfl rfl dX8_rate_106 ?_
            refine lv_bipush (v := (nI 20)) hx hb dX8_rate_109 (by decide) ?_
            refine lv_iload_n hx hb dX8_rate_111 rfl (lv_at hl 4 rfl) ?_
            refine xtop (y := .int (nI (tn a1))) (congrArg Value.int e_a1) ?_
            refine lv_imul hx hb dX8_rate_112 ?_
            refine xtop (y := .int (nI (20 * (tn a1)))) (congrArg Value.int (pk_mul _ _)) ?_
            refine lv_iload_n hx hb dX8_rate_113 rfl (lv_at hl 5 rfl) ?_
            refine xtop (y := .int (nI (tn a2))) (congrArg Value.int e_a2) ?_
            refine lv_iadd hx hb dX8_rate_114 ?_
            refine xtop (y := .int (nI (20 * (tn a1) + (tn a2)))) (congrArg Value.int (nI_add _ _)) ?_
            refine lv_iload_n hx hb dX8_rate_115 rfl (lv_at hl 6 rfl) ?_
            refine xtop (y := .int (nI (tn a3))) (congrArg Value.int e_a3) ?_
            refine xiM (i := (20 * (tn a1) + (tn a2))) (n := 240) 3 hx hb I hS hR hF (by decide) (by omega) (by decide) dX8_rate_116 (fun H locs hw I hR hF hS => ?_)
            have hW := hW.sI (k := 3) (by decide) (20 * (tn a1) + (tn a2)) (nI (tn a3))
            refine lv_iload hx hb dX8_rate_117 (lv_at hl 0 rfl) ?_
            subst hG
            exact xriQ hx hb hr hlocks dX8_rate_119 I hS ⟨rfl, hR, hF⟩
          · skip
            rw [if_neg c_72] at hG
            refine lv_iconst (v := (nI 3)) hx hb dX8_rate_75 (by decide) ?_
            refine lv_goto (tgt := 80) hx hb dX8_rate_76 (by decide) ?_
            refine xputM 0 hx hb hts hin8 hown I hS hR hF (by decide) (List.mem_of_getElem? (i := 3) rfl) rfl rfl rfl rfl rfl (hR.putTh _) dX8_rate_80 (fun H locs hw I hR hF hS => ?_)
            refine lv_aload_n hx hb dX8_rate_83 rfl (lv_at hl 2 rfl) ?_
            refine xget (C := RX8) (T := TX8) (N := 37) 0 hx hb hts hin8 hown I hR.1 rfl (by decide) (List.mem_of_getElem? (i := 3) rfl) rfl rfl dX8_rate_84 ?_
            refine lv_if_le (tgt := 92) hx hb dX8_rate_87 (by decide) (fun q => absurd q (by decide)) (fun _ => ?_)
            refine lv_iconst (v := (nI 0)) hx hb dX8_rate_90 (by decide) ?_
            subst hG
            exact xriQ hx hb hr hlocks dX8_rate_91 I hS ⟨rfl, hR, hF⟩
      · skip
        rw [if_pos c_36] at hG
        refine lv_iconst (v := (nI 1)) hx hb dX8_rate_39 (by decide) ?_
        refine lv_goto (tgt := 80) hx hb dX8_rate_40 (by decide) ?_
        refine xputM 0 hx hb hts hin8 hown I hS hR hF (by decide) (List.mem_of_getElem? (i := 3) rfl) rfl rfl rfl rfl rfl (hR.putTh _) dX8_rate_80 (fun H locs hw I hR hF hS => ?_)
        refine lv_aload_n hx hb dX8_rate_83 rfl (lv_at hl 2 rfl) ?_
        refine xget (C := RX8) (T := TX8) (N := 37) 0 hx hb hts hin8 hown I hR.1 rfl (by decide) (List.mem_of_getElem? (i := 3) rfl) rfl rfl dX8_rate_84 ?_
        refine lv_if_le (tgt := 92) hx hb dX8_rate_87 (by decide) (fun q => absurd q (by decide)) (fun _ => ?_)
        refine lv_iconst (v := (nI 0)) hx hb dX8_rate_90 (by decide) ?_
        subst hG
        exact xriQ hx hb hr hlocks dX8_rate_91 I hS ⟨rfl, hR, hF⟩

def fX8_weight (σ : MT) (th : Int32) (a1 : Int32) (a2 : Int32) : Int64 × MT × Int32 := (if (fX8_isMember σ a1) = 0 then ((0 : Int64), σ, (nI 1)) else (if (fX8_isYear a2) = 0 then ((0 : Int64), σ, (nI 2)) else ((fX8_weightOf σ (tn a1) (tn a2)), σ, (nI 0))))
set_option maxHeartbeats 4000000 in
set_option maxRecDepth 100000 in
theorem mX8_weight (l : Launch) (lo : Nat) (D : va_G) (E : Nat → ClassId) (h : XW) (σ : MT) (th : Int32) (r : Nat) (ar : Nat → Nat) (hR : RM E σ th r ar h) (hW : MW σ) (a1 : Int32) (a2 : Int32) : Met l yX8_weight wsX8_weight ({ frames := 2, cells := 0, slots := 0, locals := 43 } : Room) (xP lo D E h [.ref r, .int a1, .int a2]) (xQ lo D (fun v h' => v = some (.long (fX8_weight σ th a1 a2).1) ∧ RM E (fX8_weight σ th a1 a2).2.1 (fX8_weight σ th a1 a2).2.2 r ar h' ∧ xF r ar h h')) 0 0 (xA lo) := by
  obtain ⟨G, hG⟩ : ∃ G, fX8_weight σ th a1 a2 = G := ⟨_, rfl⟩
  rw [hG]
  unfold fX8_weight at hG
  refine Met.ofW (cc := cX8_weight) (maxL := 3) (ret := (some .long)) (by decide) rfl ?_
  intro p e s m args below meth c s₁ B hml hv
  obtain ⟨rfl, I⟩ := hv
  have hx := B.exec
  have hb := B.bytes
  have hr := B.returns
  have hts := atoms_spec (ws := wsX8_weight) B.pre
  have hown : s.vm.findClass RX8 = some m.cls := findClass_of_methodNamed B.named
  have hlocks := B.notSynchronized
  have hl := lv_entry ([.ref r, .int a1, .int a2] : List Value) (n := 3) (Nat.le_of_ble_eq_true rfl)
  rw [lg_entry_eq]
  generalize (lg_sl ([.ref r, .int a1, .int a2] : List Value) ++ List.replicate (3 - (lg_sl ([.ref r, .int a1, .int a2] : List Value)).length) Slot.unset).toArray = ls at hl ⊢
  have hl : lv_has ls 3 [(0, .ref r), (1, .int a1), (2, .int a2)] := hl
  have hin8 : ∀ w ∈ u_ws RX8 TX8 37, w ∈ wsX8_weight := fun _ h => List.mem_cons_of_mem _ (List.mem_append_right _ (h))
  have hW0 := hW
  obtain ⟨⟨w1, w2, w3, w4, w5, w6, w7⟩, w9, w12, w21, w22, w23, w25, w31, z26, z27, z28, z36⟩ := id hW
  have hS : va_S (xA lo) s.heap s.heap [] := va_S.rf
  have hF : xF r ar h h := xF.rf
  refine lv_aload_n hx hb dX8_weight_0 rfl (lv_at hl 0 rfl) ?_
  refine lv_aload_n hx hb dX8_weight_1 rfl (lv_at hl 0 rfl) ?_
  refine lv_iload_n hx hb dX8_weight_2 rfl (lv_at hl 1 rfl) ?_
  refine xcvR (As := [.int a1]) (rest := [.ref r]) (v := some (.int (fX8_isMember σ a1))) ⟨hx, hb, hml, hown, hts⟩ (mX8_isMember l lo D E h σ th r ar hR hW a1  ) (cwV 1 hts gX8_weight_X8_isMember rfl rfl rfl (by decide +kernel) ⟨Nat.le_of_ble_eq_true rfl, Nat.le_of_ble_eq_true rfl⟩) I hR.1 rfl rfl hl.1 rfl (Nat.le_of_ble_eq_true rfl) dX8_weight_3 ⟨Nat.le_of_ble_eq_true rfl, Nat.le_of_ble_eq_true rfl⟩ ?_
  refine W.eq (g2 := F0 m 6 ls [.int (fX8_isMember σ a1), .ref r]) rfl ?_
  refine lv_if_ne (tgt := 13) hx hb dX8_weight_6 (by decide) (fun c_6 => ?_) (fun c_6 => ?_)
  · skip
    rw [if_neg c_6] at hG
    obtain ⟨e_a1, l_a1⟩ := ok_isMember hW c_6
    refine lv_iload_n hx hb dX8_weight_13 rfl (lv_at hl 2 rfl) ?_
    refine xcsR (As := [.int a2]) (rest := [.ref r]) (v := some (.int (fX8_isYear a2))) ⟨hx, hb, hml, hown, hts⟩ (mX8_isYear l lo D E h  a2  ) (va_cwS 1 hts gX8_weight_X8_isYear rfl rfl rfl (by decide +kernel) ⟨Nat.le_of_ble_eq_true rfl, Nat.le_of_ble_eq_true rfl⟩) I rfl hl.1 rfl (Nat.le_of_ble_eq_true rfl) dX8_weight_14 ⟨Nat.le_of_ble_eq_true rfl, Nat.le_of_ble_eq_true rfl⟩ ?_
    refine W.eq (g2 := F0 m 17 ls [.int (fX8_isYear a2), .ref r]) rfl ?_
    refine lv_if_ne (tgt := 24) hx hb dX8_weight_17 (by decide) (fun c_17 => ?_) (fun c_17 => ?_)
    · skip
      rw [if_neg c_17] at hG
      obtain ⟨e_a2, l_a2⟩ := ok_isYear c_17
      refine lv_iconst (v := (nI 0)) hx hb dX8_weight_24 (by decide) ?_
      refine xputM 0 hx hb hts hin8 hown I hS hR hF (by decide) (List.mem_of_getElem? (i := 1) rfl) rfl rfl rfl rfl rfl (hR.putTh _) dX8_weight_25 (fun H locs hw I hR hF hS => ?_)
      refine lv_aload_n hx hb dX8_weight_28 rfl (lv_at hl 0 rfl) ?_
      refine xget (C := RX8) (T := TX8) (N := 37) 0 hx hb hts hin8 hown I hR.1 rfl (by decide) (List.mem_of_getElem? (i := 1) rfl) rfl rfl dX8_weight_29 ?_
      refine lv_if_le (tgt := 39) hx hb dX8_weight_32 (by decide) (fun _ => ?_) (fun q => absurd (by decide) q)
      refine lv_aload_n hx hb dX8_weight_39 rfl (lv_at hl 0 rfl) ?_
      refine lv_iload_n hx hb dX8_weight_40 rfl (lv_at hl 1 rfl) ?_
      refine xtop (y := .int (nI (tn a1))) (congrArg Value.int e_a1) ?_
      refine lv_iload_n hx hb dX8_weight_41 rfl (lv_at hl 2 rfl) ?_
      refine xtop (y := .int (nI (tn a2))) (congrArg Value.int e_a2) ?_
      refine xcvR (As := [.int (nI (tn a1)), .int (nI (tn a2))]) (rest := []) (v := some (.long (fX8_weightOf σ (tn a1) (tn a2)))) ⟨hx, hb, hml, hown, hts⟩ (mX8_weightOf l lo D E hw σ (nI 0) r ar hR hW (tn a1) (tn a2)  (by first | assumption | omega) (by first | assumption | omega)) (cwV 2 hts gX8_weight_X8_weightOf rfl rfl rfl (by decide +kernel) ⟨Nat.le_of_ble_eq_true rfl, Nat.le_of_ble_eq_true rfl⟩) I hR.1 rfl rfl hl.1 rfl (Nat.le_of_ble_eq_true rfl) dX8_weight_42 ⟨Nat.le_of_ble_eq_true rfl, Nat.le_of_ble_eq_true rfl⟩ ?_
      refine W.eq (g2 := F0 m 45 ls [.long (fX8_weightOf σ (tn a1) (tn a2))]) rfl ?_
      subst hG
      exact xrlQ hx hb hr hlocks dX8_weight_45 I hS ⟨rfl, hR, hF⟩
    · skip
      rw [if_pos c_17] at hG
      refine lv_iconst (v := (nI 2)) hx hb dX8_weight_20 (by decide) ?_
      refine lv_goto (tgt := 25) hx hb dX8_weight_21 (by decide) ?_
      refine xputM 0 hx hb hts hin8 hown I hS hR hF (by decide) (List.mem_of_getElem? (i := 1) rfl) rfl rfl rfl rfl rfl (hR.putTh _) dX8_weight_25 (fun H locs hw I hR hF hS => ?_)
      refine lv_aload_n hx hb dX8_weight_28 rfl (lv_at hl 0 rfl) ?_
      refine xget (C := RX8) (T := TX8) (N := 37) 0 hx hb hts hin8 hown I hR.1 rfl (by decide) (List.mem_of_getElem? (i := 1) rfl) rfl rfl dX8_weight_29 ?_
      refine lv_if_le (tgt := 39) hx hb dX8_weight_32 (by decide) (fun q => absurd q (by decide)) (fun _ => ?_)
      refine lv_lconst (v := (0 : Int64)) hx hb dX8_weight_35 rfl ?_
      refine lv_goto (tgt := 45) hx hb dX8_weight_36 (by decide) ?_
      subst hG
      exact xrlQ hx hb hr hlocks dX8_weight_45 I hS ⟨rfl, hR, hF⟩
  · skip
    rw [if_pos c_6] at hG
    refine lv_iconst (v := (nI 1)) hx hb dX8_weight_9 (by decide) ?_
    refine lv_goto (tgt := 25) hx hb dX8_weight_10 (by decide) ?_
    refine xputM 0 hx hb hts hin8 hown I hS hR hF (by decide) (List.mem_of_getElem? (i := 1) rfl) rfl rfl rfl rfl rfl (hR.putTh _) dX8_weight_25 (fun H locs hw I hR hF hS => ?_)
    refine lv_aload_n hx hb dX8_weight_28 rfl (lv_at hl 0 rfl) ?_
    refine xget (C := RX8) (T := TX8) (N := 37) 0 hx hb hts hin8 hown I hR.1 rfl (by decide) (List.mem_of_getElem? (i := 1) rfl) rfl rfl dX8_weight_29 ?_
    refine lv_if_le (tgt := 39) hx hb dX8_weight_32 (by decide) (fun q => absurd q (by decide)) (fun _ => ?_)
    refine lv_lconst (v := (0 : Int64)) hx hb dX8_weight_35 rfl ?_
    refine lv_goto (tgt := 45) hx hb dX8_weight_36 (by decide) ?_
    subst hG
    exact xrlQ hx hb hr hlocks dX8_weight_45 I hS ⟨rfl, hR, hF⟩

def fX8_weightAnew (σ : MT) (th : Int32) (a1 : Int32) (a2 : Int32) : Int64 × MT × Int32 := (if (fX8_isMember σ a1) = 0 then ((0 : Int64), σ, (nI 1)) else (if (fX8_isYear a2) = 0 then ((0 : Int64), σ, (nI 2)) else ((fX8_weightOf σ (tn a1) (tn a2)), σ, (nI 0))))
set_option maxHeartbeats 4000000 in
set_option maxRecDepth 100000 in
theorem mX8_weightAnew (l : Launch) (lo : Nat) (D : va_G) (E : Nat → ClassId) (h : XW) (σ : MT) (th : Int32) (r : Nat) (ar : Nat → Nat) (hR : RM E σ th r ar h) (hW : MW σ) (a1 : Int32) (a2 : Int32) : Met l yX8_weightAnew wsX8_weightAnew ({ frames := 2, cells := 0, slots := 0, locals := 43 } : Room) (xP lo D E h [.ref r, .int a1, .int a2]) (xQ lo D (fun v h' => v = some (.long (fX8_weightAnew σ th a1 a2).1) ∧ RM E (fX8_weightAnew σ th a1 a2).2.1 (fX8_weightAnew σ th a1 a2).2.2 r ar h' ∧ xF r ar h h')) 0 0 (xA lo) := by
  obtain ⟨G, hG⟩ : ∃ G, fX8_weightAnew σ th a1 a2 = G := ⟨_, rfl⟩
  rw [hG]
  unfold fX8_weightAnew at hG
  refine Met.ofW (cc := cX8_weightAnew) (maxL := 3) (ret := (some .long)) (by decide) rfl ?_
  intro p e s m args below meth c s₁ B hml hv
  obtain ⟨rfl, I⟩ := hv
  have hx := B.exec
  have hb := B.bytes
  have hr := B.returns
  have hts := atoms_spec (ws := wsX8_weightAnew) B.pre
  have hown : s.vm.findClass RX8 = some m.cls := findClass_of_methodNamed B.named
  have hlocks := B.notSynchronized
  have hl := lv_entry ([.ref r, .int a1, .int a2] : List Value) (n := 3) (Nat.le_of_ble_eq_true rfl)
  rw [lg_entry_eq]
  generalize (lg_sl ([.ref r, .int a1, .int a2] : List Value) ++ List.replicate (3 - (lg_sl ([.ref r, .int a1, .int a2] : List Value)).length) Slot.unset).toArray = ls at hl ⊢
  have hl : lv_has ls 3 [(0, .ref r), (1, .int a1), (2, .int a2)] := hl
  have hin8 : ∀ w ∈ u_ws RX8 TX8 37, w ∈ wsX8_weightAnew := fun _ h => List.mem_cons_of_mem _ (List.mem_append_right _ (h))
  have hW0 := hW
  obtain ⟨⟨w1, w2, w3, w4, w5, w6, w7⟩, w9, w12, w21, w22, w23, w25, w31, z26, z27, z28, z36⟩ := id hW
  have hS : va_S (xA lo) s.heap s.heap [] := va_S.rf
  have hF : xF r ar h h := xF.rf
  refine lv_aload_n hx hb dX8_weightAnew_0 rfl (lv_at hl 0 rfl) ?_
  refine lv_aload_n hx hb dX8_weightAnew_1 rfl (lv_at hl 0 rfl) ?_
  refine lv_iload_n hx hb dX8_weightAnew_2 rfl (lv_at hl 1 rfl) ?_
  refine xcvR (As := [.int a1]) (rest := [.ref r]) (v := some (.int (fX8_isMember σ a1))) ⟨hx, hb, hml, hown, hts⟩ (mX8_isMember l lo D E h σ th r ar hR hW a1  ) (cwV 1 hts gX8_weightAnew_X8_isMember rfl rfl rfl (by decide +kernel) ⟨Nat.le_of_ble_eq_true rfl, Nat.le_of_ble_eq_true rfl⟩) I hR.1 rfl rfl hl.1 rfl (Nat.le_of_ble_eq_true rfl) dX8_weightAnew_3 ⟨Nat.le_of_ble_eq_true rfl, Nat.le_of_ble_eq_true rfl⟩ ?_
  refine W.eq (g2 := F0 m 6 ls [.int (fX8_isMember σ a1), .ref r]) rfl ?_
  refine lv_if_ne (tgt := 13) hx hb dX8_weightAnew_6 (by decide) (fun c_6 => ?_) (fun c_6 => ?_)
  · skip
    rw [if_neg c_6] at hG
    obtain ⟨e_a1, l_a1⟩ := ok_isMember hW c_6
    refine lv_iload_n hx hb dX8_weightAnew_13 rfl (lv_at hl 2 rfl) ?_
    refine xcsR (As := [.int a2]) (rest := [.ref r]) (v := some (.int (fX8_isYear a2))) ⟨hx, hb, hml, hown, hts⟩ (mX8_isYear l lo D E h  a2  ) (va_cwS 1 hts gX8_weightAnew_X8_isYear rfl rfl rfl (by decide +kernel) ⟨Nat.le_of_ble_eq_true rfl, Nat.le_of_ble_eq_true rfl⟩) I rfl hl.1 rfl (Nat.le_of_ble_eq_true rfl) dX8_weightAnew_14 ⟨Nat.le_of_ble_eq_true rfl, Nat.le_of_ble_eq_true rfl⟩ ?_
    refine W.eq (g2 := F0 m 17 ls [.int (fX8_isYear a2), .ref r]) rfl ?_
    refine lv_if_ne (tgt := 24) hx hb dX8_weightAnew_17 (by decide) (fun c_17 => ?_) (fun c_17 => ?_)
    · skip
      rw [if_neg c_17] at hG
      obtain ⟨e_a2, l_a2⟩ := ok_isYear c_17
      refine lv_iconst (v := (nI 0)) hx hb dX8_weightAnew_24 (by decide) ?_
      refine xputM 0 hx hb hts hin8 hown I hS hR hF (by decide) (List.mem_of_getElem? (i := 1) rfl) rfl rfl rfl rfl rfl (hR.putTh _) dX8_weightAnew_25 (fun H locs hw I hR hF hS => ?_)
      refine lv_aload_n hx hb dX8_weightAnew_28 rfl (lv_at hl 0 rfl) ?_
      refine xget (C := RX8) (T := TX8) (N := 37) 0 hx hb hts hin8 hown I hR.1 rfl (by decide) (List.mem_of_getElem? (i := 1) rfl) rfl rfl dX8_weightAnew_29 ?_
      refine lv_if_le (tgt := 39) hx hb dX8_weightAnew_32 (by decide) (fun _ => ?_) (fun q => absurd (by decide) q)
      refine lv_aload_n hx hb dX8_weightAnew_39 rfl (lv_at hl 0 rfl) ?_
      refine lv_iload_n hx hb dX8_weightAnew_40 rfl (lv_at hl 1 rfl) ?_
      refine xtop (y := .int (nI (tn a1))) (congrArg Value.int e_a1) ?_
      refine lv_iload_n hx hb dX8_weightAnew_41 rfl (lv_at hl 2 rfl) ?_
      refine xtop (y := .int (nI (tn a2))) (congrArg Value.int e_a2) ?_
      refine xcvR (As := [.int (nI (tn a1)), .int (nI (tn a2))]) (rest := []) (v := some (.long (fX8_weightOf σ (tn a1) (tn a2)))) ⟨hx, hb, hml, hown, hts⟩ (mX8_weightOf l lo D E hw σ (nI 0) r ar hR hW (tn a1) (tn a2)  (by first | assumption | omega) (by first | assumption | omega)) (cwV 2 hts gX8_weightAnew_X8_weightOf rfl rfl rfl (by decide +kernel) ⟨Nat.le_of_ble_eq_true rfl, Nat.le_of_ble_eq_true rfl⟩) I hR.1 rfl rfl hl.1 rfl (Nat.le_of_ble_eq_true rfl) dX8_weightAnew_42 ⟨Nat.le_of_ble_eq_true rfl, Nat.le_of_ble_eq_true rfl⟩ ?_
      refine W.eq (g2 := F0 m 45 ls [.long (fX8_weightOf σ (tn a1) (tn a2))]) rfl ?_
      subst hG
      exact xrlQ hx hb hr hlocks dX8_weightAnew_45 I hS ⟨rfl, hR, hF⟩
    · skip
      rw [if_pos c_17] at hG
      refine lv_iconst (v := (nI 2)) hx hb dX8_weightAnew_20 (by decide) ?_
      refine lv_goto (tgt := 25) hx hb dX8_weightAnew_21 (by decide) ?_
      refine xputM 0 hx hb hts hin8 hown I hS hR hF (by decide) (List.mem_of_getElem? (i := 1) rfl) rfl rfl rfl rfl rfl (hR.putTh _) dX8_weightAnew_25 (fun H locs hw I hR hF hS => ?_)
      refine lv_aload_n hx hb dX8_weightAnew_28 rfl (lv_at hl 0 rfl) ?_
      refine xget (C := RX8) (T := TX8) (N := 37) 0 hx hb hts hin8 hown I hR.1 rfl (by decide) (List.mem_of_getElem? (i := 1) rfl) rfl rfl dX8_weightAnew_29 ?_
      refine lv_if_le (tgt := 39) hx hb dX8_weightAnew_32 (by decide) (fun q => absurd q (by decide)) (fun _ => ?_)
      refine lv_lconst (v := (0 : Int64)) hx hb dX8_weightAnew_35 rfl ?_
      refine lv_goto (tgt := 45) hx hb dX8_weightAnew_36 (by decide) ?_
      subst hG
      exact xrlQ hx hb hr hlocks dX8_weightAnew_45 I hS ⟨rfl, hR, hF⟩
  · skip
    rw [if_pos c_6] at hG
    refine lv_iconst (v := (nI 1)) hx hb dX8_weightAnew_9 (by decide) ?_
    refine lv_goto (tgt := 25) hx hb dX8_weightAnew_10 (by decide) ?_
    refine xputM 0 hx hb hts hin8 hown I hS hR hF (by decide) (List.mem_of_getElem? (i := 1) rfl) rfl rfl rfl rfl rfl (hR.putTh _) dX8_weightAnew_25 (fun H locs hw I hR hF hS => ?_)
    refine lv_aload_n hx hb dX8_weightAnew_28 rfl (lv_at hl 0 rfl) ?_
    refine xget (C := RX8) (T := TX8) (N := 37) 0 hx hb hts hin8 hown I hR.1 rfl (by decide) (List.mem_of_getElem? (i := 1) rfl) rfl rfl dX8_weightAnew_29 ?_
    refine lv_if_le (tgt := 39) hx hb dX8_weightAnew_32 (by decide) (fun q => absurd q (by decide)) (fun _ => ?_)
    refine lv_lconst (v := (0 : Int64)) hx hb dX8_weightAnew_35 rfl ?_
    refine lv_goto (tgt := 45) hx hb dX8_weightAnew_36 (by decide) ?_
    subst hG
    exact xrlQ hx hb hr hlocks dX8_weightAnew_45 I hS ⟨rfl, hR, hF⟩

def fX8_rule (σ : MT) (th : Int32) (a1 : Int32) (a2 : Int32) (a3 : Int32) (a4 : Int32) : MT × Int32 := (if (fX8_isKind a1) = 0 then (σ, (nI 1)) else (if (fX8_isYear a2) = 0 then (σ, (nI 1)) else (if (fX8_isIn a3 (nI 0) (nI 1000000)) = 0 then (σ, (nI 1)) else (if (fX8_isIn a4 (nI 0) (nI 10000000)) = 0 then (σ, (nI 1)) else (if (nI (mN σ 34)) ≤ (nI (tn a2)) then ((mSI (mSI σ 15 (20 * (tn a1) + (tn a2)) (nI (tn a3))) 16 (20 * (tn a1) + (tn a2)) (nI (tn a4))), (nI 0)) else (σ, (nI 2)))))))
set_option maxHeartbeats 4000000 in
set_option maxRecDepth 100000 in
theorem mX8_rule (l : Launch) (lo : Nat) (D : va_G) (E : Nat → ClassId) (h : XW) (σ : MT) (th : Int32) (r : Nat) (ar : Nat → Nat) (hR : RM E σ th r ar h) (hW : MW σ) (a1 : Int32) (a2 : Int32) (a3 : Int32) (a4 : Int32) : Met l yX8_rule wsX8_rule ({ frames := 2, cells := 0, slots := 0, locals := 42 } : Room) (xP lo D E h [.ref r, .int a1, .int a2, .int a3, .int a4]) (xQ lo D (fun v h' => v = none ∧ RM E (fX8_rule σ th a1 a2 a3 a4).1 (fX8_rule σ th a1 a2 a3 a4).2 r ar h' ∧ xF r ar h h')) 0 0 (xA lo) := by
  obtain ⟨G, hG⟩ : ∃ G, fX8_rule σ th a1 a2 a3 a4 = G := ⟨_, rfl⟩
  rw [hG]
  unfold fX8_rule at hG
  refine Met.ofW (cc := cX8_rule) (maxL := 6) (ret := none) (by decide) rfl ?_
  intro p e s m args below meth c s₁ B hml hv
  obtain ⟨rfl, I⟩ := hv
  have hx := B.exec
  have hb := B.bytes
  have hr := B.returns
  have hts := atoms_spec (ws := wsX8_rule) B.pre
  have hown : s.vm.findClass RX8 = some m.cls := findClass_of_methodNamed B.named
  have hlocks := B.notSynchronized
  have hl := lv_entry ([.ref r, .int a1, .int a2, .int a3, .int a4] : List Value) (n := 6) (Nat.le_of_ble_eq_true rfl)
  rw [lg_entry_eq]
  generalize (lg_sl ([.ref r, .int a1, .int a2, .int a3, .int a4] : List Value) ++ List.replicate (6 - (lg_sl ([.ref r, .int a1, .int a2, .int a3, .int a4] : List Value)).length) Slot.unset).toArray = ls at hl ⊢
  have hl : lv_has ls 6 [(0, .ref r), (1, .int a1), (2, .int a2), (3, .int a3), (4, .int a4)] := hl
  have hin8 : ∀ w ∈ u_ws RX8 TX8 37, w ∈ wsX8_rule := fun _ h => List.mem_cons_of_mem _ (List.mem_append_right _ (h))
  have hW0 := hW
  obtain ⟨⟨w1, w2, w3, w4, w5, w6, w7⟩, w9, w12, w21, w22, w23, w25, w31, z26, z27, z28, z36⟩ := id hW
  have hS : va_S (xA lo) s.heap s.heap [] := va_S.rf
  have hF : xF r ar h h := xF.rf
  refine lv_iload_n hx hb dX8_rule_0 rfl (lv_at hl 1 rfl) ?_
  refine xcsR (As := [.int a1]) (rest := []) (v := some (.int (fX8_isKind a1))) ⟨hx, hb, hml, hown, hts⟩ (mX8_isKind l lo D E h  a1  ) (va_cwS 1 hts gX8_rule_X8_isKind rfl rfl rfl (by decide +kernel) ⟨Nat.le_of_ble_eq_true rfl, Nat.le_of_ble_eq_true rfl⟩) I rfl hl.1 rfl (Nat.le_of_ble_eq_true rfl) dX8_rule_1 ⟨Nat.le_of_ble_eq_true rfl, Nat.le_of_ble_eq_true rfl⟩ ?_
  refine W.eq (g2 := F0 m 4 ls [.int (fX8_isKind a1)]) rfl ?_
  refine lv_if_eq (tgt := 39) hx hb dX8_rule_4 (by decide) (fun c_4 => ?_) (fun c_4 => ?_)
  · skip
    rw [if_pos c_4] at hG
    refine lv_iconst (v := (nI 0)) hx hb dX8_rule_39 (by decide) ?_
    refine lv_istore (lv' := [(5, .int (nI 0)), (0, .ref r), (1, .int a1), (2, .int a2), (3, .int a3), (4, .int a4)]) hx hb dX8_rule_40 hl (by decide) rfl (fun ls hl => ?_)
    refine lv_aload_n hx hb dX8_rule_42 rfl (lv_at hl 1 rfl) ?_
    refine lv_iload hx hb dX8_rule_43 (lv_at hl 0 rfl) ?_
    refine lv_if_ne (tgt := 52) hx hb dX8_rule_45 (by decide) (fun q => absurd (by decide) q) (fun _ => ?_)
    refine lv_iconst (v := (nI 1)) hx hb dX8_rule_48 (by decide) ?_
    refine lv_goto (tgt := 65) hx hb dX8_rule_49 (by decide) ?_
    refine xputM 0 hx hb hts hin8 hown I hS hR hF (by decide) (List.mem_of_getElem? (i := 4) rfl) rfl rfl rfl rfl rfl (hR.putTh _) dX8_rule_65 (fun H locs hw I hR hF hS => ?_)
    refine lv_aload_n hx hb dX8_rule_68 rfl (lv_at hl 1 rfl) ?_
    refine xget (C := RX8) (T := TX8) (N := 37) 0 hx hb hts hin8 hown I hR.1 rfl (by decide) (List.mem_of_getElem? (i := 4) rfl) rfl rfl dX8_rule_69 ?_
    refine lv_if_ne (tgt := 100) hx hb dX8_rule_72 (by decide) (fun _ => ?_) (fun q => absurd q (by decide))
    subst hG
    exact xrvQ hx hb hr hlocks dX8_rule_100 I hS ⟨rfl, hR, hF⟩
  · skip
    rw [if_neg c_4] at hG
    obtain ⟨e_a1, l_a1⟩ := ok_isKind c_4
    refine lv_iload_n hx hb dX8_rule_7 rfl (lv_at hl 2 rfl) ?_
    refine xcsR (As := [.int a2]) (rest := []) (v := some (.int (fX8_isYear a2))) ⟨hx, hb, hml, hown, hts⟩ (mX8_isYear l lo D E h  a2  ) (va_cwS 1 hts gX8_rule_X8_isYear rfl rfl rfl (by decide +kernel) ⟨Nat.le_of_ble_eq_true rfl, Nat.le_of_ble_eq_true rfl⟩) I rfl hl.1 rfl (Nat.le_of_ble_eq_true rfl) dX8_rule_8 ⟨Nat.le_of_ble_eq_true rfl, Nat.le_of_ble_eq_true rfl⟩ ?_
    refine W.eq (g2 := F0 m 11 ls [.int (fX8_isYear a2)]) rfl ?_
    refine lv_if_eq (tgt := 39) hx hb dX8_rule_11 (by decide) (fun c_11 => ?_) (fun c_11 => ?_)
    · skip
      rw [if_pos c_11] at hG
      refine lv_iconst (v := (nI 0)) hx hb dX8_rule_39 (by decide) ?_
      refine lv_istore (lv' := [(5, .int (nI 0)), (0, .ref r), (1, .int a1), (2, .int a2), (3, .int a3), (4, .int a4)]) hx hb dX8_rule_40 hl (by decide) rfl (fun ls hl => ?_)
      refine lv_aload_n hx hb dX8_rule_42 rfl (lv_at hl 1 rfl) ?_
      refine lv_iload hx hb dX8_rule_43 (lv_at hl 0 rfl) ?_
      refine lv_if_ne (tgt := 52) hx hb dX8_rule_45 (by decide) (fun q => absurd (by decide) q) (fun _ => ?_)
      refine lv_iconst (v := (nI 1)) hx hb dX8_rule_48 (by decide) ?_
      refine lv_goto (tgt := 65) hx hb dX8_rule_49 (by decide) ?_
      refine xputM 0 hx hb hts hin8 hown I hS hR hF (by decide) (List.mem_of_getElem? (i := 4) rfl) rfl rfl rfl rfl rfl (hR.putTh _) dX8_rule_65 (fun H locs hw I hR hF hS => ?_)
      refine lv_aload_n hx hb dX8_rule_68 rfl (lv_at hl 1 rfl) ?_
      refine xget (C := RX8) (T := TX8) (N := 37) 0 hx hb hts hin8 hown I hR.1 rfl (by decide) (List.mem_of_getElem? (i := 4) rfl) rfl rfl dX8_rule_69 ?_
      refine lv_if_ne (tgt := 100) hx hb dX8_rule_72 (by decide) (fun _ => ?_) (fun q => absurd q (by decide))
      subst hG
      exact xrvQ hx hb hr hlocks dX8_rule_100 I hS ⟨rfl, hR, hF⟩
    · skip
      rw [if_neg c_11] at hG
      obtain ⟨e_a2, l_a2⟩ := ok_isYear c_11
      refine lv_iload_n hx hb dX8_rule_14 rfl (lv_at hl 3 rfl) ?_
      refine lv_iconst (v := (nI 0)) hx hb dX8_rule_15 (by decide) ?_
      refine lv_ldc (v := (nI 1000000)) hx hb hown (hts _ (List.mem_of_getElem? (i := 1) rfl)) dX8_rule_16 ?_
      refine xcsR (As := [.int a3, .int (nI 0), .int (nI 1000000)]) (rest := []) (v := some (.int (fX8_isIn a3 (nI 0) (nI 1000000)))) ⟨hx, hb, hml, hown, hts⟩ (mX8_isIn l lo D E h  a3 (nI 0) (nI 1000000)  ) (va_cwS 3 hts gX8_rule_X8_isIn rfl rfl rfl (by decide +kernel) ⟨Nat.le_of_ble_eq_true rfl, Nat.le_of_ble_eq_true rfl⟩) I rfl hl.1 rfl (Nat.le_of_ble_eq_true rfl) dX8_rule_18 ⟨Nat.le_of_ble_eq_true rfl, Nat.le_of_ble_eq_true rfl⟩ ?_
      refine W.eq (g2 := F0 m 21 ls [.int (fX8_isIn a3 (nI 0) (nI 1000000))]) rfl ?_
      refine lv_if_eq (tgt := 39) hx hb dX8_rule_21 (by decide) (fun c_21 => ?_) (fun c_21 => ?_)
      · skip
        rw [if_pos c_21] at hG
        refine lv_iconst (v := (nI 0)) hx hb dX8_rule_39 (by decide) ?_
        refine lv_istore (lv' := [(5, .int (nI 0)), (0, .ref r), (1, .int a1), (2, .int a2), (3, .int a3), (4, .int a4)]) hx hb dX8_rule_40 hl (by decide) rfl (fun ls hl => ?_)
        refine lv_aload_n hx hb dX8_rule_42 rfl (lv_at hl 1 rfl) ?_
        refine lv_iload hx hb dX8_rule_43 (lv_at hl 0 rfl) ?_
        refine lv_if_ne (tgt := 52) hx hb dX8_rule_45 (by decide) (fun q => absurd (by decide) q) (fun _ => ?_)
        refine lv_iconst (v := (nI 1)) hx hb dX8_rule_48 (by decide) ?_
        refine lv_goto (tgt := 65) hx hb dX8_rule_49 (by decide) ?_
        refine xputM 0 hx hb hts hin8 hown I hS hR hF (by decide) (List.mem_of_getElem? (i := 4) rfl) rfl rfl rfl rfl rfl (hR.putTh _) dX8_rule_65 (fun H locs hw I hR hF hS => ?_)
        refine lv_aload_n hx hb dX8_rule_68 rfl (lv_at hl 1 rfl) ?_
        refine xget (C := RX8) (T := TX8) (N := 37) 0 hx hb hts hin8 hown I hR.1 rfl (by decide) (List.mem_of_getElem? (i := 4) rfl) rfl rfl dX8_rule_69 ?_
        refine lv_if_ne (tgt := 100) hx hb dX8_rule_72 (by decide) (fun _ => ?_) (fun q => absurd q (by decide))
        subst hG
        exact xrvQ hx hb hr hlocks dX8_rule_100 I hS ⟨rfl, hR, hF⟩
      · skip
        rw [if_neg c_21] at hG
        obtain ⟨e_a3, l_a3⟩ := ok_isIn (by decide) c_21
        refine lv_iload hx hb dX8_rule_24 (lv_at hl 4 rfl) ?_
        refine lv_iconst (v := (nI 0)) hx hb dX8_rule_26 (by decide) ?_
        refine lv_ldc (v := (nI 10000000)) hx hb hown (hts _ (List.mem_of_getElem? (i := 2) rfl)) dX8_rule_27 ?_
        refine xcsR (As := [.int a4, .int (nI 0), .int (nI 10000000)]) (rest := []) (v := some (.int (fX8_isIn a4 (nI 0) (nI 10000000)))) ⟨hx, hb, hml, hown, hts⟩ (mX8_isIn l lo D E h  a4 (nI 0) (nI 10000000)  ) (va_cwS 3 hts gX8_rule_X8_isIn rfl rfl rfl (by decide +kernel) ⟨Nat.le_of_ble_eq_true rfl, Nat.le_of_ble_eq_true rfl⟩) I rfl hl.1 rfl (Nat.le_of_ble_eq_true rfl) dX8_rule_29 ⟨Nat.le_of_ble_eq_true rfl, Nat.le_of_ble_eq_true rfl⟩ ?_
        refine W.eq (g2 := F0 m 32 ls [.int (fX8_isIn a4 (nI 0) (nI 10000000))]) rfl ?_
        refine lv_if_eq (tgt := 39) hx hb dX8_rule_32 (by decide) (fun c_32 => ?_) (fun c_32 => ?_)
        · skip
          rw [if_pos c_32] at hG
          refine lv_iconst (v := (nI 0)) hx hb dX8_rule_39 (by decide) ?_
          refine lv_istore (lv' := [(5, .int (nI 0)), (0, .ref r), (1, .int a1), (2, .int a2), (3, .int a3), (4, .int a4)]) hx hb dX8_rule_40 hl (by decide) rfl (fun ls hl => ?_)
          refine lv_aload_n hx hb dX8_rule_42 rfl (lv_at hl 1 rfl) ?_
          refine lv_iload hx hb dX8_rule_43 (lv_at hl 0 rfl) ?_
          refine lv_if_ne (tgt := 52) hx hb dX8_rule_45 (by decide) (fun q => absurd (by decide) q) (fun _ => ?_)
          refine lv_iconst (v := (nI 1)) hx hb dX8_rule_48 (by decide) ?_
          refine lv_goto (tgt := 65) hx hb dX8_rule_49 (by decide) ?_
          refine xputM 0 hx hb hts hin8 hown I hS hR hF (by decide) (List.mem_of_getElem? (i := 4) rfl) rfl rfl rfl rfl rfl (hR.putTh _) dX8_rule_65 (fun H locs hw I hR hF hS => ?_)
          refine lv_aload_n hx hb dX8_rule_68 rfl (lv_at hl 1 rfl) ?_
          refine xget (C := RX8) (T := TX8) (N := 37) 0 hx hb hts hin8 hown I hR.1 rfl (by decide) (List.mem_of_getElem? (i := 4) rfl) rfl rfl dX8_rule_69 ?_
          refine lv_if_ne (tgt := 100) hx hb dX8_rule_72 (by decide) (fun _ => ?_) (fun q => absurd q (by decide))
          subst hG
          exact xrvQ hx hb hr hlocks dX8_rule_100 I hS ⟨rfl, hR, hF⟩
        · skip
          rw [if_neg c_32] at hG
          obtain ⟨e_a4, l_a4⟩ := ok_isIn (by decide) c_32
          refine lv_iconst (v := (nI 1)) hx hb dX8_rule_35 (by decide) ?_
          refine lv_goto (tgt := 40) hx hb dX8_rule_36 (by decide) ?_
          refine lv_istore (lv' := [(5, .int (nI 1)), (0, .ref r), (1, .int a1), (2, .int a2), (3, .int a3), (4, .int a4)]) hx hb dX8_rule_40 hl (by decide) rfl (fun ls hl => ?_)
          refine lv_aload_n hx hb dX8_rule_42 rfl (lv_at hl 1 rfl) ?_
          refine lv_iload hx hb dX8_rule_43 (lv_at hl 0 rfl) ?_
          refine lv_if_ne (tgt := 52) hx hb dX8_rule_45 (by decide) (fun _ => ?_) (fun q => absurd q (by decide))
          refine lv_iload_n hx hb dX8_rule_52 rfl (lv_at hl 3 rfl) ?_
          refine xtop (y := .int (nI (tn a2))) (congrArg Value.int e_a2) ?_
          refine lv_aload_n hx hb dX8_rule_53 rfl (lv_at hl 1 rfl) ?_
          refine xget (C := RX8) (T := TX8) (N := 37) 34 hx hb hts hin8 hown I hR.1 rfl (by decide) (List.mem_of_getElem? (i := 3) rfl) rfl rfl dX8_rule_54 ?_
          refine lv_icmp_ge (tgt := 64) hx hb dX8_rule_57 (by decide) (fun c_57 => ?_) (fun c_57 => ?_)
          · skip
            rw [if_pos c_57] at hG
            refine lv_iconst (v := (nI 0)) hx hb dX8_rule_64 (by decide) ?_
            refine xputM 0 hx hb hts hin8 hown I hS hR hF (by decide) (List.mem_of_getElem? (i := 4) rfl) rfl rfl rfl rfl rfl (hR.putTh _) dX8_rule_65 (fun H locs hw I hR hF hS => ?_)
            refine lv_aload_n hx hb dX8_rule_68 rfl (lv_at hl 1 rfl) ?_
            refine xget (C := RX8) (T := TX8) (N := 37) 0 hx hb hts hin8 hown I hR.1 rfl (by decide) (List.mem_of_getElem? (i := 4) rfl) rfl rfl dX8_rule_69 ?_
            refine lv_if_ne (tgt := 100) hx hb dX8_rule_72 (by decide) (fun q => absurd (by decide) q) (fun _ => ?_)
            refine lv_aload_n hx hb dX8_rule_75 rfl (lv_at hl 1 rfl) ?_
            refine xget (C := RX8) (T := TX8) (N := 37) 15 hx hb hts hin8 hown I hR.1 rfl (by decide) (List.mem_of_getElem? (i := 5) rfl) rfl rfl dX8_rule_76 ?_
            refine lv_bipush (v := (nI 20)) hx hb dX8_rule_79 (by decide) ?_
            refine lv_iload_n hx hb dX8_rule_81 rfl (lv_at hl 2 rfl) ?_
            refine xtop (y := .int (nI (tn a1))) (congrArg Value.int e_a1) ?_
            refine lv_imul hx hb dX8_rule_82 ?_
            refine xtop (y := .int (nI (20 * (tn a1)))) (congrArg Value.int (pk_mul _ _)) ?_
            refine lv_iload_n hx hb dX8_rule_83 rfl (lv_at hl 3 rfl) ?_
            refine xtop (y := .int (nI (tn a2))) (congrArg Value.int e_a2) ?_
            refine lv_iadd hx hb dX8_rule_84 ?_
            refine xtop (y := .int (nI (20 * (tn a1) + (tn a2)))) (congrArg Value.int (nI_add _ _)) ?_
            refine lv_iload_n hx hb dX8_rule_85 rfl (lv_at hl 4 rfl) ?_
            refine xtop (y := .int (nI (tn a3))) (congrArg Value.int e_a3) ?_
            refine xiM (i := (20 * (tn a1) + (tn a2))) (n := 80) 15 hx hb I hS hR hF (by decide) (by omega) (by decide) dX8_rule_86 (fun H locs hw I hR hF hS => ?_)
            have hW := hW.sI (k := 15) (by decide) (20 * (tn a1) + (tn a2)) (nI (tn a3))
            refine lv_aload_n hx hb dX8_rule_87 rfl (lv_at hl 1 rfl) ?_
            refine xget (C := RX8) (T := TX8) (N := 37) 16 hx hb hts hin8 hown I hR.1 rfl (by decide) (List.mem_of_getElem? (i := 6) rfl) rfl rfl dX8_rule_88 ?_
            refine lv_bipush (v := (nI 20)) hx hb dX8_rule_91 (by decide) ?_
            refine lv_iload_n hx hb dX8_rule_93 rfl (lv_at hl 2 rfl) ?_
            refine xtop (y := .int (nI (tn a1))) (congrArg Value.int e_a1) ?_
            refine lv_imul hx hb dX8_rule_94 ?_
            refine xtop (y := .int (nI (20 * (tn a1)))) (congrArg Value.int (pk_mul _ _)) ?_
            refine lv_iload_n hx hb dX8_rule_95 rfl (lv_at hl 3 rfl) ?_
            refine xtop (y := .int (nI (tn a2))) (congrArg Value.int e_a2) ?_
            refine lv_iadd hx hb dX8_rule_96 ?_
            refine xtop (y := .int (nI (20 * (tn a1) + (tn a2)))) (congrArg Value.int (nI_add _ _)) ?_
            refine lv_iload hx hb dX8_rule_97 (lv_at hl 5 rfl) ?_
            refine xtop (y := .int (nI (tn a4))) (congrArg Value.int e_a4) ?_
            refine xiM (i := (20 * (tn a1) + (tn a2))) (n := 80) 16 hx hb I hS hR hF (by decide) (by omega) (by decide) dX8_rule_99 (fun H locs hw I hR hF hS => ?_)
            have hW := hW.sI (k := 16) (by decide) (20 * (tn a1) + (tn a2)) (nI (tn a4))
            subst hG
            exact xrvQ hx hb hr hlocks dX8_rule_100 I hS ⟨rfl, hR, hF⟩
          · skip
            rw [if_neg c_57] at hG
            refine lv_iconst (v := (nI 2)) hx hb dX8_rule_60 (by decide) ?_
            refine lv_goto (tgt := 65) hx hb dX8_rule_61 (by decide) ?_
            refine xputM 0 hx hb hts hin8 hown I hS hR hF (by decide) (List.mem_of_getElem? (i := 4) rfl) rfl rfl rfl rfl rfl (hR.putTh _) dX8_rule_65 (fun H locs hw I hR hF hS => ?_)
            refine lv_aload_n hx hb dX8_rule_68 rfl (lv_at hl 1 rfl) ?_
            refine xget (C := RX8) (T := TX8) (N := 37) 0 hx hb hts hin8 hown I hR.1 rfl (by decide) (List.mem_of_getElem? (i := 4) rfl) rfl rfl dX8_rule_69 ?_
            refine lv_if_ne (tgt := 100) hx hb dX8_rule_72 (by decide) (fun _ => ?_) (fun q => absurd q (by decide))
            subst hG
            exact xrvQ hx hb hr hlocks dX8_rule_100 I hS ⟨rfl, hR, hF⟩

def fX8_pool (σ : MT) (th : Int32) (a1 : Int32) (a2 : Int32) (a3 : Int32) (a4 : Int32) : MT × Int32 := (if (fX8_isYear a1) = 0 then (σ, (nI 1)) else (if (fX8_isIn a2 (nI 0) (nI 10000000)) = 0 then (σ, (nI 1)) else (if (fX8_isIn a3 (nI (tn a2)) (nI 100000000)) = 0 then (σ, (nI 1)) else (if (fX8_isIn a4 (nI 0) (nI 100)) = 0 then (σ, (nI 1)) else (if (nI (mN σ 34)) ≤ (nI (tn a1)) then ((mSI (mSI (mSI σ 17 (tn a1) (nI (tn a2))) 18 (tn a1) a3) 19 (tn a1) (nI (tn a4))), (nI 0)) else (σ, (nI 2)))))))
set_option maxHeartbeats 4000000 in
set_option maxRecDepth 100000 in
theorem mX8_pool (l : Launch) (lo : Nat) (D : va_G) (E : Nat → ClassId) (h : XW) (σ : MT) (th : Int32) (r : Nat) (ar : Nat → Nat) (hR : RM E σ th r ar h) (hW : MW σ) (a1 : Int32) (a2 : Int32) (a3 : Int32) (a4 : Int32) : Met l yX8_pool wsX8_pool ({ frames := 2, cells := 0, slots := 0, locals := 42 } : Room) (xP lo D E h [.ref r, .int a1, .int a2, .int a3, .int a4]) (xQ lo D (fun v h' => v = none ∧ RM E (fX8_pool σ th a1 a2 a3 a4).1 (fX8_pool σ th a1 a2 a3 a4).2 r ar h' ∧ xF r ar h h')) 0 0 (xA lo) := by
  obtain ⟨G, hG⟩ : ∃ G, fX8_pool σ th a1 a2 a3 a4 = G := ⟨_, rfl⟩
  rw [hG]
  unfold fX8_pool at hG
  refine Met.ofW (cc := cX8_pool) (maxL := 6) (ret := none) (by decide) rfl ?_
  intro p e s m args below meth c s₁ B hml hv
  obtain ⟨rfl, I⟩ := hv
  have hx := B.exec
  have hb := B.bytes
  have hr := B.returns
  have hts := atoms_spec (ws := wsX8_pool) B.pre
  have hown : s.vm.findClass RX8 = some m.cls := findClass_of_methodNamed B.named
  have hlocks := B.notSynchronized
  have hl := lv_entry ([.ref r, .int a1, .int a2, .int a3, .int a4] : List Value) (n := 6) (Nat.le_of_ble_eq_true rfl)
  rw [lg_entry_eq]
  generalize (lg_sl ([.ref r, .int a1, .int a2, .int a3, .int a4] : List Value) ++ List.replicate (6 - (lg_sl ([.ref r, .int a1, .int a2, .int a3, .int a4] : List Value)).length) Slot.unset).toArray = ls at hl ⊢
  have hl : lv_has ls 6 [(0, .ref r), (1, .int a1), (2, .int a2), (3, .int a3), (4, .int a4)] := hl
  have hin8 : ∀ w ∈ u_ws RX8 TX8 37, w ∈ wsX8_pool := fun _ h => List.mem_cons_of_mem _ (List.mem_append_right _ (h))
  have hW0 := hW
  obtain ⟨⟨w1, w2, w3, w4, w5, w6, w7⟩, w9, w12, w21, w22, w23, w25, w31, z26, z27, z28, z36⟩ := id hW
  have hS : va_S (xA lo) s.heap s.heap [] := va_S.rf
  have hF : xF r ar h h := xF.rf
  refine lv_iload_n hx hb dX8_pool_0 rfl (lv_at hl 1 rfl) ?_
  refine xcsR (As := [.int a1]) (rest := []) (v := some (.int (fX8_isYear a1))) ⟨hx, hb, hml, hown, hts⟩ (mX8_isYear l lo D E h  a1  ) (va_cwS 1 hts gX8_pool_X8_isYear rfl rfl rfl (by decide +kernel) ⟨Nat.le_of_ble_eq_true rfl, Nat.le_of_ble_eq_true rfl⟩) I rfl hl.1 rfl (Nat.le_of_ble_eq_true rfl) dX8_pool_1 ⟨Nat.le_of_ble_eq_true rfl, Nat.le_of_ble_eq_true rfl⟩ ?_
  refine W.eq (g2 := F0 m 4 ls [.int (fX8_isYear a1)]) rfl ?_
  refine lv_if_eq (tgt := 42) hx hb dX8_pool_4 (by decide) (fun c_4 => ?_) (fun c_4 => ?_)
  · skip
    rw [if_pos c_4] at hG
    refine lv_iconst (v := (nI 0)) hx hb dX8_pool_42 (by decide) ?_
    refine lv_istore (lv' := [(5, .int (nI 0)), (0, .ref r), (1, .int a1), (2, .int a2), (3, .int a3), (4, .int a4)]) hx hb dX8_pool_43 hl (by decide) rfl (fun ls hl => ?_)
    refine lv_aload_n hx hb dX8_pool_45 rfl (lv_at hl 1 rfl) ?_
    refine lv_iload hx hb dX8_pool_46 (lv_at hl 0 rfl) ?_
    refine lv_if_ne (tgt := 55) hx hb dX8_pool_48 (by decide) (fun q => absurd (by decide) q) (fun _ => ?_)
    refine lv_iconst (v := (nI 1)) hx hb dX8_pool_51 (by decide) ?_
    refine lv_goto (tgt := 68) hx hb dX8_pool_52 (by decide) ?_
    refine xputM 0 hx hb hts hin8 hown I hS hR hF (by decide) (List.mem_of_getElem? (i := 4) rfl) rfl rfl rfl rfl rfl (hR.putTh _) dX8_pool_68 (fun H locs hw I hR hF hS => ?_)
    refine lv_aload_n hx hb dX8_pool_71 rfl (lv_at hl 1 rfl) ?_
    refine xget (C := RX8) (T := TX8) (N := 37) 0 hx hb hts hin8 hown I hR.1 rfl (by decide) (List.mem_of_getElem? (i := 4) rfl) rfl rfl dX8_pool_72 ?_
    refine lv_if_ne (tgt := 100) hx hb dX8_pool_75 (by decide) (fun _ => ?_) (fun q => absurd q (by decide))
    subst hG
    exact xrvQ hx hb hr hlocks dX8_pool_100 I hS ⟨rfl, hR, hF⟩
  · skip
    rw [if_neg c_4] at hG
    obtain ⟨e_a1, l_a1⟩ := ok_isYear c_4
    refine lv_iload_n hx hb dX8_pool_7 rfl (lv_at hl 2 rfl) ?_
    refine lv_iconst (v := (nI 0)) hx hb dX8_pool_8 (by decide) ?_
    refine lv_ldc (v := (nI 10000000)) hx hb hown (hts _ (List.mem_of_getElem? (i := 1) rfl)) dX8_pool_9 ?_
    refine xcsR (As := [.int a2, .int (nI 0), .int (nI 10000000)]) (rest := []) (v := some (.int (fX8_isIn a2 (nI 0) (nI 10000000)))) ⟨hx, hb, hml, hown, hts⟩ (mX8_isIn l lo D E h  a2 (nI 0) (nI 10000000)  ) (va_cwS 3 hts gX8_pool_X8_isIn rfl rfl rfl (by decide +kernel) ⟨Nat.le_of_ble_eq_true rfl, Nat.le_of_ble_eq_true rfl⟩) I rfl hl.1 rfl (Nat.le_of_ble_eq_true rfl) dX8_pool_11 ⟨Nat.le_of_ble_eq_true rfl, Nat.le_of_ble_eq_true rfl⟩ ?_
    refine W.eq (g2 := F0 m 14 ls [.int (fX8_isIn a2 (nI 0) (nI 10000000))]) rfl ?_
    refine lv_if_eq (tgt := 42) hx hb dX8_pool_14 (by decide) (fun c_14 => ?_) (fun c_14 => ?_)
    · skip
      rw [if_pos c_14] at hG
      refine lv_iconst (v := (nI 0)) hx hb dX8_pool_42 (by decide) ?_
      refine lv_istore (lv' := [(5, .int (nI 0)), (0, .ref r), (1, .int a1), (2, .int a2), (3, .int a3), (4, .int a4)]) hx hb dX8_pool_43 hl (by decide) rfl (fun ls hl => ?_)
      refine lv_aload_n hx hb dX8_pool_45 rfl (lv_at hl 1 rfl) ?_
      refine lv_iload hx hb dX8_pool_46 (lv_at hl 0 rfl) ?_
      refine lv_if_ne (tgt := 55) hx hb dX8_pool_48 (by decide) (fun q => absurd (by decide) q) (fun _ => ?_)
      refine lv_iconst (v := (nI 1)) hx hb dX8_pool_51 (by decide) ?_
      refine lv_goto (tgt := 68) hx hb dX8_pool_52 (by decide) ?_
      refine xputM 0 hx hb hts hin8 hown I hS hR hF (by decide) (List.mem_of_getElem? (i := 4) rfl) rfl rfl rfl rfl rfl (hR.putTh _) dX8_pool_68 (fun H locs hw I hR hF hS => ?_)
      refine lv_aload_n hx hb dX8_pool_71 rfl (lv_at hl 1 rfl) ?_
      refine xget (C := RX8) (T := TX8) (N := 37) 0 hx hb hts hin8 hown I hR.1 rfl (by decide) (List.mem_of_getElem? (i := 4) rfl) rfl rfl dX8_pool_72 ?_
      refine lv_if_ne (tgt := 100) hx hb dX8_pool_75 (by decide) (fun _ => ?_) (fun q => absurd q (by decide))
      subst hG
      exact xrvQ hx hb hr hlocks dX8_pool_100 I hS ⟨rfl, hR, hF⟩
    · skip
      rw [if_neg c_14] at hG
      obtain ⟨e_a2, l_a2⟩ := ok_isIn (by decide) c_14
      refine lv_iload_n hx hb dX8_pool_17 rfl (lv_at hl 3 rfl) ?_
      refine lv_iload_n hx hb dX8_pool_18 rfl (lv_at hl 2 rfl) ?_
      refine xtop (y := .int (nI (tn a2))) (congrArg Value.int e_a2) ?_
      refine lv_ldc (v := (nI 100000000)) hx hb hown (hts _ (List.mem_of_getElem? (i := 2) rfl)) dX8_pool_19 ?_
      refine xcsR (As := [.int a3, .int (nI (tn a2)), .int (nI 100000000)]) (rest := []) (v := some (.int (fX8_isIn a3 (nI (tn a2)) (nI 100000000)))) ⟨hx, hb, hml, hown, hts⟩ (mX8_isIn l lo D E h  a3 (nI (tn a2)) (nI 100000000)  ) (va_cwS 3 hts gX8_pool_X8_isIn rfl rfl rfl (by decide +kernel) ⟨Nat.le_of_ble_eq_true rfl, Nat.le_of_ble_eq_true rfl⟩) I rfl hl.1 rfl (Nat.le_of_ble_eq_true rfl) dX8_pool_21 ⟨Nat.le_of_ble_eq_true rfl, Nat.le_of_ble_eq_true rfl⟩ ?_
      refine W.eq (g2 := F0 m 24 ls [.int (fX8_isIn a3 (nI (tn a2)) (nI 100000000))]) rfl ?_
      refine lv_if_eq (tgt := 42) hx hb dX8_pool_24 (by decide) (fun c_24 => ?_) (fun c_24 => ?_)
      · skip
        rw [if_pos c_24] at hG
        refine lv_iconst (v := (nI 0)) hx hb dX8_pool_42 (by decide) ?_
        refine lv_istore (lv' := [(5, .int (nI 0)), (0, .ref r), (1, .int a1), (2, .int a2), (3, .int a3), (4, .int a4)]) hx hb dX8_pool_43 hl (by decide) rfl (fun ls hl => ?_)
        refine lv_aload_n hx hb dX8_pool_45 rfl (lv_at hl 1 rfl) ?_
        refine lv_iload hx hb dX8_pool_46 (lv_at hl 0 rfl) ?_
        refine lv_if_ne (tgt := 55) hx hb dX8_pool_48 (by decide) (fun q => absurd (by decide) q) (fun _ => ?_)
        refine lv_iconst (v := (nI 1)) hx hb dX8_pool_51 (by decide) ?_
        refine lv_goto (tgt := 68) hx hb dX8_pool_52 (by decide) ?_
        refine xputM 0 hx hb hts hin8 hown I hS hR hF (by decide) (List.mem_of_getElem? (i := 4) rfl) rfl rfl rfl rfl rfl (hR.putTh _) dX8_pool_68 (fun H locs hw I hR hF hS => ?_)
        refine lv_aload_n hx hb dX8_pool_71 rfl (lv_at hl 1 rfl) ?_
        refine xget (C := RX8) (T := TX8) (N := 37) 0 hx hb hts hin8 hown I hR.1 rfl (by decide) (List.mem_of_getElem? (i := 4) rfl) rfl rfl dX8_pool_72 ?_
        refine lv_if_ne (tgt := 100) hx hb dX8_pool_75 (by decide) (fun _ => ?_) (fun q => absurd q (by decide))
        subst hG
        exact xrvQ hx hb hr hlocks dX8_pool_100 I hS ⟨rfl, hR, hF⟩
      · skip
        rw [if_neg c_24] at hG
        refine lv_iload hx hb dX8_pool_27 (lv_at hl 4 rfl) ?_
        refine lv_iconst (v := (nI 0)) hx hb dX8_pool_29 (by decide) ?_
        refine lv_bipush (v := (nI 100)) hx hb dX8_pool_30 (by decide) ?_
        refine xcsR (As := [.int a4, .int (nI 0), .int (nI 100)]) (rest := []) (v := some (.int (fX8_isIn a4 (nI 0) (nI 100)))) ⟨hx, hb, hml, hown, hts⟩ (mX8_isIn l lo D E h  a4 (nI 0) (nI 100)  ) (va_cwS 3 hts gX8_pool_X8_isIn rfl rfl rfl (by decide +kernel) ⟨Nat.le_of_ble_eq_true rfl, Nat.le_of_ble_eq_true rfl⟩) I rfl hl.1 rfl (Nat.le_of_ble_eq_true rfl) dX8_pool_32 ⟨Nat.le_of_ble_eq_true rfl, Nat.le_of_ble_eq_true rfl⟩ ?_
        refine W.eq (g2 := F0 m 35 ls [.int (fX8_isIn a4 (nI 0) (nI 100))]) rfl ?_
        refine lv_if_eq (tgt := 42) hx hb dX8_pool_35 (by decide) (fun c_35 => ?_) (fun c_35 => ?_)
        · skip
          rw [if_pos c_35] at hG
          refine lv_iconst (v := (nI 0)) hx hb dX8_pool_42 (by decide) ?_
          refine lv_istore (lv' := [(5, .int (nI 0)), (0, .ref r), (1, .int a1), (2, .int a2), (3, .int a3), (4, .int a4)]) hx hb dX8_pool_43 hl (by decide) rfl (fun ls hl => ?_)
          refine lv_aload_n hx hb dX8_pool_45 rfl (lv_at hl 1 rfl) ?_
          refine lv_iload hx hb dX8_pool_46 (lv_at hl 0 rfl) ?_
          refine lv_if_ne (tgt := 55) hx hb dX8_pool_48 (by decide) (fun q => absurd (by decide) q) (fun _ => ?_)
          refine lv_iconst (v := (nI 1)) hx hb dX8_pool_51 (by decide) ?_
          refine lv_goto (tgt := 68) hx hb dX8_pool_52 (by decide) ?_
          refine xputM 0 hx hb hts hin8 hown I hS hR hF (by decide) (List.mem_of_getElem? (i := 4) rfl) rfl rfl rfl rfl rfl (hR.putTh _) dX8_pool_68 (fun H locs hw I hR hF hS => ?_)
          refine lv_aload_n hx hb dX8_pool_71 rfl (lv_at hl 1 rfl) ?_
          refine xget (C := RX8) (T := TX8) (N := 37) 0 hx hb hts hin8 hown I hR.1 rfl (by decide) (List.mem_of_getElem? (i := 4) rfl) rfl rfl dX8_pool_72 ?_
          refine lv_if_ne (tgt := 100) hx hb dX8_pool_75 (by decide) (fun _ => ?_) (fun q => absurd q (by decide))
          subst hG
          exact xrvQ hx hb hr hlocks dX8_pool_100 I hS ⟨rfl, hR, hF⟩
        · skip
          rw [if_neg c_35] at hG
          obtain ⟨e_a4, l_a4⟩ := ok_isIn (by decide) c_35
          refine lv_iconst (v := (nI 1)) hx hb dX8_pool_38 (by decide) ?_
          refine lv_goto (tgt := 43) hx hb dX8_pool_39 (by decide) ?_
          refine lv_istore (lv' := [(5, .int (nI 1)), (0, .ref r), (1, .int a1), (2, .int a2), (3, .int a3), (4, .int a4)]) hx hb dX8_pool_43 hl (by decide) rfl (fun ls hl => ?_)
          refine lv_aload_n hx hb dX8_pool_45 rfl (lv_at hl 1 rfl) ?_
          refine lv_iload hx hb dX8_pool_46 (lv_at hl 0 rfl) ?_
          refine lv_if_ne (tgt := 55) hx hb dX8_pool_48 (by decide) (fun _ => ?_) (fun q => absurd q (by decide))
          refine lv_iload_n hx hb dX8_pool_55 rfl (lv_at hl 2 rfl) ?_
          refine xtop (y := .int (nI (tn a1))) (congrArg Value.int e_a1) ?_
          refine lv_aload_n hx hb dX8_pool_56 rfl (lv_at hl 1 rfl) ?_
          refine xget (C := RX8) (T := TX8) (N := 37) 34 hx hb hts hin8 hown I hR.1 rfl (by decide) (List.mem_of_getElem? (i := 3) rfl) rfl rfl dX8_pool_57 ?_
          refine lv_icmp_ge (tgt := 67) hx hb dX8_pool_60 (by decide) (fun c_60 => ?_) (fun c_60 => ?_)
          · skip
            rw [if_pos c_60] at hG
            refine lv_iconst (v := (nI 0)) hx hb dX8_pool_67 (by decide) ?_
            refine xputM 0 hx hb hts hin8 hown I hS hR hF (by decide) (List.mem_of_getElem? (i := 4) rfl) rfl rfl rfl rfl rfl (hR.putTh _) dX8_pool_68 (fun H locs hw I hR hF hS => ?_)
            refine lv_aload_n hx hb dX8_pool_71 rfl (lv_at hl 1 rfl) ?_
            refine xget (C := RX8) (T := TX8) (N := 37) 0 hx hb hts hin8 hown I hR.1 rfl (by decide) (List.mem_of_getElem? (i := 4) rfl) rfl rfl dX8_pool_72 ?_
            refine lv_if_ne (tgt := 100) hx hb dX8_pool_75 (by decide) (fun q => absurd (by decide) q) (fun _ => ?_)
            refine lv_aload_n hx hb dX8_pool_78 rfl (lv_at hl 1 rfl) ?_
            refine xget (C := RX8) (T := TX8) (N := 37) 17 hx hb hts hin8 hown I hR.1 rfl (by decide) (List.mem_of_getElem? (i := 5) rfl) rfl rfl dX8_pool_79 ?_
            refine lv_iload_n hx hb dX8_pool_82 rfl (lv_at hl 2 rfl) ?_
            refine xtop (y := .int (nI (tn a1))) (congrArg Value.int e_a1) ?_
            refine lv_iload_n hx hb dX8_pool_83 rfl (lv_at hl 3 rfl) ?_
            refine xtop (y := .int (nI (tn a2))) (congrArg Value.int e_a2) ?_
            refine xiM (i := (tn a1)) (n := 20) 17 hx hb I hS hR hF (by decide) (by omega) (by decide) dX8_pool_84 (fun H locs hw I hR hF hS => ?_)
            have hW := hW.sI (k := 17) (by decide) (tn a1) (nI (tn a2))
            refine lv_aload_n hx hb dX8_pool_85 rfl (lv_at hl 1 rfl) ?_
            refine xget (C := RX8) (T := TX8) (N := 37) 18 hx hb hts hin8 hown I hR.1 rfl (by decide) (List.mem_of_getElem? (i := 6) rfl) rfl rfl dX8_pool_86 ?_
            refine lv_iload_n hx hb dX8_pool_89 rfl (lv_at hl 2 rfl) ?_
            refine xtop (y := .int (nI (tn a1))) (congrArg Value.int e_a1) ?_
            refine lv_iload_n hx hb dX8_pool_90 rfl (lv_at hl 4 rfl) ?_
            refine xiM (i := (tn a1)) (n := 20) 18 hx hb I hS hR hF (by decide) (by omega) (by decide) dX8_pool_91 (fun H locs hw I hR hF hS => ?_)
            have hW := hW.sI (k := 18) (by decide) (tn a1) a3
            refine lv_aload_n hx hb dX8_pool_92 rfl (lv_at hl 1 rfl) ?_
            refine xget (C := RX8) (T := TX8) (N := 37) 19 hx hb hts hin8 hown I hR.1 rfl (by decide) (List.mem_of_getElem? (i := 7) rfl) rfl rfl dX8_pool_93 ?_
            refine lv_iload_n hx hb dX8_pool_96 rfl (lv_at hl 2 rfl) ?_
            refine xtop (y := .int (nI (tn a1))) (congrArg Value.int e_a1) ?_
            refine lv_iload hx hb dX8_pool_97 (lv_at hl 5 rfl) ?_
            refine xtop (y := .int (nI (tn a4))) (congrArg Value.int e_a4) ?_
            refine xiM (i := (tn a1)) (n := 20) 19 hx hb I hS hR hF (by decide) (by omega) (by decide) dX8_pool_99 (fun H locs hw I hR hF hS => ?_)
            have hW := hW.sI (k := 19) (by decide) (tn a1) (nI (tn a4))
            subst hG
            exact xrvQ hx hb hr hlocks dX8_pool_100 I hS ⟨rfl, hR, hF⟩
          · skip
            rw [if_neg c_60] at hG
            refine lv_iconst (v := (nI 2)) hx hb dX8_pool_63 (by decide) ?_
            refine lv_goto (tgt := 68) hx hb dX8_pool_64 (by decide) ?_
            refine xputM 0 hx hb hts hin8 hown I hS hR hF (by decide) (List.mem_of_getElem? (i := 4) rfl) rfl rfl rfl rfl rfl (hR.putTh _) dX8_pool_68 (fun H locs hw I hR hF hS => ?_)
            refine lv_aload_n hx hb dX8_pool_71 rfl (lv_at hl 1 rfl) ?_
            refine xget (C := RX8) (T := TX8) (N := 37) 0 hx hb hts hin8 hown I hR.1 rfl (by decide) (List.mem_of_getElem? (i := 4) rfl) rfl rfl dX8_pool_72 ?_
            refine lv_if_ne (tgt := 100) hx hb dX8_pool_75 (by decide) (fun _ => ?_) (fun q => absurd q (by decide))
            subst hG
            exact xrvQ hx hb hr hlocks dX8_pool_100 I hS ⟨rfl, hR, hF⟩

def fX8_enter (σ : MT) (th : Int32) (a1 : Int32) : MT × Int32 := (if (fX8_isShip σ a1) = 0 then (σ, (nI 1)) else (if (fX8_open σ (nI (tn a1))) = (-1) then (if (mI σ 6 (20 * (mK σ 9 (tn a1)) + ((mN σ 1) / 100))) = (nI 1) then (σ, (nI 2)) else (if (nI 60) ≤ (nI (mN σ 11)) then (σ, (nI 2)) else ((mSK (mSI (mSI (mSK σ 12 (mN σ 11) (tn a1)) 13 (mN σ 11) (nI (mN σ 1))) 14 (mN σ 11) (-1)) 11 0 (mN σ 11 + 1)), (nI 0)))) else (σ, (nI 2))))
set_option maxHeartbeats 4000000 in
set_option maxRecDepth 100000 in
theorem mX8_enter (l : Launch) (lo : Nat) (D : va_G) (E : Nat → ClassId) (h : XW) (σ : MT) (th : Int32) (r : Nat) (ar : Nat → Nat) (hR : RM E σ th r ar h) (hW : MW σ) (a1 : Int32) : Met l yX8_enter wsX8_enter ({ frames := 2, cells := 0, slots := 0, locals := 43 } : Room) (xP lo D E h [.ref r, .int a1]) (xQ lo D (fun v h' => v = none ∧ RM E (fX8_enter σ th a1).1 (fX8_enter σ th a1).2 r ar h' ∧ xF r ar h h')) 0 0 (xA lo) := by
  obtain ⟨G, hG⟩ : ∃ G, fX8_enter σ th a1 = G := ⟨_, rfl⟩
  rw [hG]
  unfold fX8_enter at hG
  refine Met.ofW (cc := cX8_enter) (maxL := 4) (ret := none) (by decide) rfl ?_
  intro p e s m args below meth c s₁ B hml hv
  obtain ⟨rfl, I⟩ := hv
  have hx := B.exec
  have hb := B.bytes
  have hr := B.returns
  have hts := atoms_spec (ws := wsX8_enter) B.pre
  have hown : s.vm.findClass RX8 = some m.cls := findClass_of_methodNamed B.named
  have hlocks := B.notSynchronized
  have hl := lv_entry ([.ref r, .int a1] : List Value) (n := 4) (Nat.le_of_ble_eq_true rfl)
  rw [lg_entry_eq]
  generalize (lg_sl ([.ref r, .int a1] : List Value) ++ List.replicate (4 - (lg_sl ([.ref r, .int a1] : List Value)).length) Slot.unset).toArray = ls at hl ⊢
  have hl : lv_has ls 4 [(0, .ref r), (1, .int a1)] := hl
  have hin8 : ∀ w ∈ u_ws RX8 TX8 37, w ∈ wsX8_enter := fun _ h => List.mem_cons_of_mem _ (List.mem_append_right _ (h))
  have hW0 := hW
  obtain ⟨⟨w1, w2, w3, w4, w5, w6, w7⟩, w9, w12, w21, w22, w23, w25, w31, z26, z27, z28, z36⟩ := id hW
  have hS : va_S (xA lo) s.heap s.heap [] := va_S.rf
  have hF : xF r ar h h := xF.rf
  refine lv_aload_n hx hb dX8_enter_0 rfl (lv_at hl 0 rfl) ?_
  refine lv_iload_n hx hb dX8_enter_1 rfl (lv_at hl 1 rfl) ?_
  refine xcvR (As := [.int a1]) (rest := []) (v := some (.int (fX8_isShip σ a1))) ⟨hx, hb, hml, hown, hts⟩ (mX8_isShip l lo D E h σ th r ar hR hW a1  ) (cwV 1 hts gX8_enter_X8_isShip rfl rfl rfl (by decide +kernel) ⟨Nat.le_of_ble_eq_true rfl, Nat.le_of_ble_eq_true rfl⟩) I hR.1 rfl rfl hl.1 rfl (Nat.le_of_ble_eq_true rfl) dX8_enter_2 ⟨Nat.le_of_ble_eq_true rfl, Nat.le_of_ble_eq_true rfl⟩ ?_
  refine W.eq (g2 := F0 m 5 ls [.int (fX8_isShip σ a1)]) rfl ?_
  refine lv_istore_n (lv' := [(2, .int (fX8_isShip σ a1)), (0, .ref r), (1, .int a1)]) hx hb dX8_enter_5 rfl hl (by decide) rfl (fun ls hl => ?_)
  refine lv_iload_n hx hb dX8_enter_6 rfl (lv_at hl 0 rfl) ?_
  refine lv_if_eq (tgt := 58) hx hb dX8_enter_7 (by decide) (fun c_7 => ?_) (fun c_7 => ?_)
  · skip
    rw [if_pos c_7] at hG
    refine lv_iconst (v := (nI 0)) hx hb dX8_enter_58 (by decide) ?_
    refine lv_istore_n (lv' := [(3, .int (nI 0)), (2, .int (fX8_isShip σ a1)), (0, .ref r), (1, .int a1)]) hx hb dX8_enter_59 rfl hl (by decide) rfl (fun ls hl => ?_)
    refine lv_aload_n hx hb dX8_enter_60 rfl (lv_at hl 2 rfl) ?_
    refine lv_iload_n hx hb dX8_enter_61 rfl (lv_at hl 1 rfl) ?_
    refine lv_if_ne (tgt := 69) hx hb dX8_enter_62 (by decide) (fun q => absurd c_7 q) (fun _ => ?_)
    refine lv_iconst (v := (nI 1)) hx hb dX8_enter_65 (by decide) ?_
    refine lv_goto (tgt := 78) hx hb dX8_enter_66 (by decide) ?_
    refine xputM 0 hx hb hts hin8 hown I hS hR hF (by decide) (List.mem_of_getElem? (i := 5) rfl) rfl rfl rfl rfl rfl (hR.putTh _) dX8_enter_78 (fun H locs hw I hR hF hS => ?_)
    refine lv_aload_n hx hb dX8_enter_81 rfl (lv_at hl 2 rfl) ?_
    refine xget (C := RX8) (T := TX8) (N := 37) 0 hx hb hts hin8 hown I hR.1 rfl (by decide) (List.mem_of_getElem? (i := 5) rfl) rfl rfl dX8_enter_82 ?_
    refine lv_if_ne (tgt := 131) hx hb dX8_enter_85 (by decide) (fun _ => ?_) (fun q => absurd q (by decide))
    subst hG
    exact xrvQ hx hb hr hlocks dX8_enter_131 I hS ⟨rfl, hR, hF⟩
  · skip
    rw [if_neg c_7] at hG
    obtain ⟨e_a1, l_a1⟩ := ok_isShip hW c_7
    refine lv_aload_n hx hb dX8_enter_10 rfl (lv_at hl 1 rfl) ?_
    refine lv_iload_n hx hb dX8_enter_11 rfl (lv_at hl 2 rfl) ?_
    refine xtop (y := .int (nI (tn a1))) (congrArg Value.int e_a1) ?_
    refine xcvR (As := [.int (nI (tn a1))]) (rest := []) (v := some (.int (fX8_open σ (nI (tn a1))))) ⟨hx, hb, hml, hown, hts⟩ (mX8_open l lo D E h σ th r ar hR hW (nI (tn a1))  ) (cwV 1 hts gX8_enter_X8_open rfl rfl rfl (by decide +kernel) ⟨Nat.le_of_ble_eq_true rfl, Nat.le_of_ble_eq_true rfl⟩) I hR.1 rfl rfl hl.1 rfl (Nat.le_of_ble_eq_true rfl) dX8_enter_12 ⟨Nat.le_of_ble_eq_true rfl, Nat.le_of_ble_eq_true rfl⟩ ?_
    refine W.eq (g2 := F0 m 15 ls [.int (fX8_open σ (nI (tn a1)))]) rfl ?_
    refine lv_iconst (v := (-1)) hx hb dX8_enter_15 (by decide) ?_
    refine lv_icmp_ne (tgt := 58) hx hb dX8_enter_16 (by decide) (fun c_16 => ?_) (fun c_16 => ?_)
    · skip
      rw [if_neg c_16] at hG
      refine lv_iconst (v := (nI 0)) hx hb dX8_enter_58 (by decide) ?_
      refine lv_istore_n (lv' := [(3, .int (nI 0)), (2, .int (fX8_isShip σ a1)), (0, .ref r), (1, .int a1)]) hx hb dX8_enter_59 rfl hl (by decide) rfl (fun ls hl => ?_)
      refine lv_aload_n hx hb dX8_enter_60 rfl (lv_at hl 2 rfl) ?_
      refine lv_iload_n hx hb dX8_enter_61 rfl (lv_at hl 1 rfl) ?_
      refine lv_if_ne (tgt := 69) hx hb dX8_enter_62 (by decide) (fun _ => ?_) (fun q => absurd q c_7)
      refine lv_iload_n hx hb dX8_enter_69 rfl (lv_at hl 0 rfl) ?_
      refine lv_if_ne (tgt := 77) hx hb dX8_enter_70 (by decide) (fun q => absurd (by decide) q) (fun _ => ?_)
      refine lv_iconst (v := (nI 2)) hx hb dX8_enter_73 (by decide) ?_
      refine lv_goto (tgt := 78) hx hb dX8_enter_74 (by decide) ?_
      refine xputM 0 hx hb hts hin8 hown I hS hR hF (by decide) (List.mem_of_getElem? (i := 5) rfl) rfl rfl rfl rfl rfl (hR.putTh _) dX8_enter_78 (fun H locs hw I hR hF hS => ?_)
      refine lv_aload_n hx hb dX8_enter_81 rfl (lv_at hl 2 rfl) ?_
      refine xget (C := RX8) (T := TX8) (N := 37) 0 hx hb hts hin8 hown I hR.1 rfl (by decide) (List.mem_of_getElem? (i := 5) rfl) rfl rfl dX8_enter_82 ?_
      refine lv_if_ne (tgt := 131) hx hb dX8_enter_85 (by decide) (fun _ => ?_) (fun q => absurd q (by decide))
      subst hG
      exact xrvQ hx hb hr hlocks dX8_enter_131 I hS ⟨rfl, hR, hF⟩
    · skip
      rw [if_pos c_16] at hG
      refine lv_aload_n hx hb dX8_enter_19 rfl (lv_at hl 1 rfl) ?_
      refine xget (C := RX8) (T := TX8) (N := 37) 6 hx hb hts hin8 hown I hR.1 rfl (by decide) (List.mem_of_getElem? (i := 1) rfl) rfl rfl dX8_enter_20 ?_
      refine lv_bipush (v := (nI 20)) hx hb dX8_enter_23 (by decide) ?_
      refine lv_aload_n hx hb dX8_enter_25 rfl (lv_at hl 1 rfl) ?_
      refine xget (C := RX8) (T := TX8) (N := 37) 9 hx hb hts hin8 hown I hR.1 rfl (by decide) (List.mem_of_getElem? (i := 2) rfl) rfl rfl dX8_enter_26 ?_
      refine lv_iload_n hx hb dX8_enter_29 rfl (lv_at hl 2 rfl) ?_
      refine xtop (y := .int (nI (tn a1))) (congrArg Value.int e_a1) ?_
      refine xiald (i := (tn a1)) (n := 24) hx hb I (hR.2.2.1 9 24 (by decide)) (by omega) (by decide) dX8_enter_30 ?_
      have b30 := w9 (tn a1) (by omega)
      refine lv_imul hx hb dX8_enter_31 ?_
      refine xtop (y := .int (nI (20 * (mK σ 9 (tn a1))))) (congrArg Value.int (pk_mul _ _)) ?_
      refine lv_aload_n hx hb dX8_enter_32 rfl (lv_at hl 1 rfl) ?_
      refine xget (C := RX8) (T := TX8) (N := 37) 1 hx hb hts hin8 hown I hR.1 rfl (by decide) (List.mem_of_getElem? (i := 3) rfl) rfl rfl dX8_enter_33 ?_
      refine lv_bipush (v := (nI 100)) hx hb dX8_enter_36 (by decide) ?_
      refine lv_idiv hx hb dX8_enter_38 (by decide) ?_
      refine xtop (y := .int (nI ((mN σ 1) / 100))) (congrArg Value.int (pk_div (by omega) (by decide) (by decide))) ?_
      refine lv_iadd hx hb dX8_enter_39 ?_
      refine xtop (y := .int (nI (20 * (mK σ 9 (tn a1)) + ((mN σ 1) / 100)))) (congrArg Value.int (nI_add _ _)) ?_
      refine xiald (i := (20 * (mK σ 9 (tn a1)) + ((mN σ 1) / 100))) (n := 240) hx hb I (hR.2.1 6 240 (by decide)) (by omega) (by decide) dX8_enter_40 ?_
      refine lv_iconst (v := (nI 1)) hx hb dX8_enter_41 (by decide) ?_
      refine lv_icmp_eq (tgt := 58) hx hb dX8_enter_42 (by decide) (fun c_42 => ?_) (fun c_42 => ?_)
      · skip
        rw [if_pos c_42] at hG
        refine lv_iconst (v := (nI 0)) hx hb dX8_enter_58 (by decide) ?_
        refine lv_istore_n (lv' := [(3, .int (nI 0)), (2, .int (fX8_isShip σ a1)), (0, .ref r), (1, .int a1)]) hx hb dX8_enter_59 rfl hl (by decide) rfl (fun ls hl => ?_)
        refine lv_aload_n hx hb dX8_enter_60 rfl (lv_at hl 2 rfl) ?_
        refine lv_iload_n hx hb dX8_enter_61 rfl (lv_at hl 1 rfl) ?_
        refine lv_if_ne (tgt := 69) hx hb dX8_enter_62 (by decide) (fun _ => ?_) (fun q => absurd q c_7)
        refine lv_iload_n hx hb dX8_enter_69 rfl (lv_at hl 0 rfl) ?_
        refine lv_if_ne (tgt := 77) hx hb dX8_enter_70 (by decide) (fun q => absurd (by decide) q) (fun _ => ?_)
        refine lv_iconst (v := (nI 2)) hx hb dX8_enter_73 (by decide) ?_
        refine lv_goto (tgt := 78) hx hb dX8_enter_74 (by decide) ?_
        refine xputM 0 hx hb hts hin8 hown I hS hR hF (by decide) (List.mem_of_getElem? (i := 5) rfl) rfl rfl rfl rfl rfl (hR.putTh _) dX8_enter_78 (fun H locs hw I hR hF hS => ?_)
        refine lv_aload_n hx hb dX8_enter_81 rfl (lv_at hl 2 rfl) ?_
        refine xget (C := RX8) (T := TX8) (N := 37) 0 hx hb hts hin8 hown I hR.1 rfl (by decide) (List.mem_of_getElem? (i := 5) rfl) rfl rfl dX8_enter_82 ?_
        refine lv_if_ne (tgt := 131) hx hb dX8_enter_85 (by decide) (fun _ => ?_) (fun q => absurd q (by decide))
        subst hG
        exact xrvQ hx hb hr hlocks dX8_enter_131 I hS ⟨rfl, hR, hF⟩
      · skip
        rw [if_neg c_42] at hG
        refine lv_aload_n hx hb dX8_enter_45 rfl (lv_at hl 1 rfl) ?_
        refine xget (C := RX8) (T := TX8) (N := 37) 11 hx hb hts hin8 hown I hR.1 rfl (by decide) (List.mem_of_getElem? (i := 4) rfl) rfl rfl dX8_enter_46 ?_
        refine lv_bipush (v := (nI 60)) hx hb dX8_enter_49 (by decide) ?_
        refine lv_icmp_ge (tgt := 58) hx hb dX8_enter_51 (by decide) (fun c_51 => ?_) (fun c_51 => ?_)
        · skip
          rw [if_pos c_51] at hG
          have d_51 : 60 ≤ (mN σ 11) := (nI_leI (by omega) (by omega)).mp c_51
          refine lv_iconst (v := (nI 0)) hx hb dX8_enter_58 (by decide) ?_
          refine lv_istore_n (lv' := [(3, .int (nI 0)), (2, .int (fX8_isShip σ a1)), (0, .ref r), (1, .int a1)]) hx hb dX8_enter_59 rfl hl (by decide) rfl (fun ls hl => ?_)
          refine lv_aload_n hx hb dX8_enter_60 rfl (lv_at hl 2 rfl) ?_
          refine lv_iload_n hx hb dX8_enter_61 rfl (lv_at hl 1 rfl) ?_
          refine lv_if_ne (tgt := 69) hx hb dX8_enter_62 (by decide) (fun _ => ?_) (fun q => absurd q c_7)
          refine lv_iload_n hx hb dX8_enter_69 rfl (lv_at hl 0 rfl) ?_
          refine lv_if_ne (tgt := 77) hx hb dX8_enter_70 (by decide) (fun q => absurd (by decide) q) (fun _ => ?_)
          refine lv_iconst (v := (nI 2)) hx hb dX8_enter_73 (by decide) ?_
          refine lv_goto (tgt := 78) hx hb dX8_enter_74 (by decide) ?_
          refine xputM 0 hx hb hts hin8 hown I hS hR hF (by decide) (List.mem_of_getElem? (i := 5) rfl) rfl rfl rfl rfl rfl (hR.putTh _) dX8_enter_78 (fun H locs hw I hR hF hS => ?_)
          refine lv_aload_n hx hb dX8_enter_81 rfl (lv_at hl 2 rfl) ?_
          refine xget (C := RX8) (T := TX8) (N := 37) 0 hx hb hts hin8 hown I hR.1 rfl (by decide) (List.mem_of_getElem? (i := 5) rfl) rfl rfl dX8_enter_82 ?_
          refine lv_if_ne (tgt := 131) hx hb dX8_enter_85 (by decide) (fun _ => ?_) (fun q => absurd q (by decide))
          subst hG
          exact xrvQ hx hb hr hlocks dX8_enter_131 I hS ⟨rfl, hR, hF⟩
        · skip
          rw [if_neg c_51] at hG
          have d_51 : ¬ 60 ≤ (mN σ 11) := fun q => c_51 ((nI_leI (by omega) (by omega)).mpr q)
          refine lv_iconst (v := (nI 1)) hx hb dX8_enter_54 (by decide) ?_
          refine lv_goto (tgt := 59) hx hb dX8_enter_55 (by decide) ?_
          refine lv_istore_n (lv' := [(3, .int (nI 1)), (2, .int (fX8_isShip σ a1)), (0, .ref r), (1, .int a1)]) hx hb dX8_enter_59 rfl hl (by decide) rfl (fun ls hl => ?_)
          refine lv_aload_n hx hb dX8_enter_60 rfl (lv_at hl 2 rfl) ?_
          refine lv_iload_n hx hb dX8_enter_61 rfl (lv_at hl 1 rfl) ?_
          refine lv_if_ne (tgt := 69) hx hb dX8_enter_62 (by decide) (fun _ => ?_) (fun q => absurd q c_7)
          refine lv_iload_n hx hb dX8_enter_69 rfl (lv_at hl 0 rfl) ?_
          refine lv_if_ne (tgt := 77) hx hb dX8_enter_70 (by decide) (fun _ => ?_) (fun q => absurd q (by decide))
          refine lv_iconst (v := (nI 0)) hx hb dX8_enter_77 (by decide) ?_
          refine xputM 0 hx hb hts hin8 hown I hS hR hF (by decide) (List.mem_of_getElem? (i := 5) rfl) rfl rfl rfl rfl rfl (hR.putTh _) dX8_enter_78 (fun H locs hw I hR hF hS => ?_)
          refine lv_aload_n hx hb dX8_enter_81 rfl (lv_at hl 2 rfl) ?_
          refine xget (C := RX8) (T := TX8) (N := 37) 0 hx hb hts hin8 hown I hR.1 rfl (by decide) (List.mem_of_getElem? (i := 5) rfl) rfl rfl dX8_enter_82 ?_
          refine lv_if_ne (tgt := 131) hx hb dX8_enter_85 (by decide) (fun q => absurd (by decide) q) (fun _ => ?_)
          refine lv_aload_n hx hb dX8_enter_88 rfl (lv_at hl 2 rfl) ?_
          refine xget (C := RX8) (T := TX8) (N := 37) 12 hx hb hts hin8 hown I hR.1 rfl (by decide) (List.mem_of_getElem? (i := 6) rfl) rfl rfl dX8_enter_89 ?_
          refine lv_aload_n hx hb dX8_enter_92 rfl (lv_at hl 2 rfl) ?_
          refine xget (C := RX8) (T := TX8) (N := 37) 11 hx hb hts hin8 hown I hR.1 rfl (by decide) (List.mem_of_getElem? (i := 4) rfl) rfl rfl dX8_enter_93 ?_
          refine lv_iload_n hx hb dX8_enter_96 rfl (lv_at hl 3 rfl) ?_
          refine xtop (y := .int (nI (tn a1))) (congrArg Value.int e_a1) ?_
          refine xkM (i := (mN σ 11)) (n := 60) 12 hx hb I hS hR hF (by decide) (by omega) (by decide) dX8_enter_97 (fun H locs hw I hR hF hS => ?_)
          refine lv_aload_n hx hb dX8_enter_98 rfl (lv_at hl 2 rfl) ?_
          refine xget (C := RX8) (T := TX8) (N := 37) 13 hx hb hts hin8 hown I hR.1 rfl (by decide) (List.mem_of_getElem? (i := 7) rfl) rfl rfl dX8_enter_99 ?_
          refine lv_aload_n hx hb dX8_enter_102 rfl (lv_at hl 2 rfl) ?_
          refine xget (C := RX8) (T := TX8) (N := 37) 11 hx hb hts hin8 hown I hR.1 rfl (by decide) (List.mem_of_getElem? (i := 4) rfl) rfl rfl dX8_enter_103 ?_
          refine lv_aload_n hx hb dX8_enter_106 rfl (lv_at hl 2 rfl) ?_
          refine xget (C := RX8) (T := TX8) (N := 37) 1 hx hb hts hin8 hown I hR.1 rfl (by decide) (List.mem_of_getElem? (i := 3) rfl) rfl rfl dX8_enter_107 ?_
          refine xiM (i := (mN σ 11)) (n := 60) 13 hx hb I hS hR hF (by decide) (by omega) (by decide) dX8_enter_110 (fun H locs hw I hR hF hS => ?_)
          refine lv_aload_n hx hb dX8_enter_111 rfl (lv_at hl 2 rfl) ?_
          refine xget (C := RX8) (T := TX8) (N := 37) 14 hx hb hts hin8 hown I hR.1 rfl (by decide) (List.mem_of_getElem? (i := 8) rfl) rfl rfl dX8_enter_112 ?_
          refine lv_aload_n hx hb dX8_enter_115 rfl (lv_at hl 2 rfl) ?_
          refine xget (C := RX8) (T := TX8) (N := 37) 11 hx hb hts hin8 hown I hR.1 rfl (by decide) (List.mem_of_getElem? (i := 4) rfl) rfl rfl dX8_enter_116 ?_
          refine lv_iconst (v := (-1)) hx hb dX8_enter_119 (by decide) ?_
          refine xiM (i := (mN σ 11)) (n := 60) 14 hx hb I hS hR hF (by decide) (by omega) (by decide) dX8_enter_120 (fun H locs hw I hR hF hS => ?_)
          refine lv_aload_n hx hb dX8_enter_121 rfl (lv_at hl 2 rfl) ?_
          refine lv_dup hx hb dX8_enter_122 rfl ?_
          refine xget (C := RX8) (T := TX8) (N := 37) 11 hx hb hts hin8 hown I hR.1 rfl (by decide) (List.mem_of_getElem? (i := 4) rfl) rfl rfl dX8_enter_123 ?_
          refine lv_iconst (v := (nI 1)) hx hb dX8_enter_126 (by decide) ?_
          refine lv_iadd hx hb dX8_enter_127 ?_
          refine xtop (y := .int (nI (mN σ 11 + 1))) (congrArg Value.int (nI_add _ _)) ?_
          refine xputM 11 hx hb hts hin8 hown I hS hR hF (by decide) (List.mem_of_getElem? (i := 4) rfl) rfl rfl rfl rfl rfl (hR.putN (by decide) (mN σ 11 + 1)) dX8_enter_128 (fun H locs hw I hR hF hS => ?_)
          subst hG
          exact xrvQ hx hb hr hlocks dX8_enter_131 I hS ⟨rfl, hR, hF⟩

def fX8_leave (σ : MT) (th : Int32) (a1 : Int32) : Int32 × MT × Int32 := (if (fX8_isShip σ a1) = 0 then ((nI 0), σ, (nI 1)) else (if (fX8_open σ (nI (tn a1))) = (-1) then ((nI 0), σ, (nI 2)) else (((nI (mN σ 1)) - (mI σ 13 (tn (fX8_open σ (nI (tn a1)))))), (mSI σ 14 (tn (fX8_open σ (nI (tn a1)))) (nI (mN σ 1))), (nI 0))))
set_option maxHeartbeats 4000000 in
set_option maxRecDepth 100000 in
theorem mX8_leave (l : Launch) (lo : Nat) (D : va_G) (E : Nat → ClassId) (h : XW) (σ : MT) (th : Int32) (r : Nat) (ar : Nat → Nat) (hR : RM E σ th r ar h) (hW : MW σ) (a1 : Int32) : Met l yX8_leave wsX8_leave ({ frames := 2, cells := 0, slots := 0, locals := 43 } : Room) (xP lo D E h [.ref r, .int a1]) (xQ lo D (fun v h' => v = some (.int (fX8_leave σ th a1).1) ∧ RM E (fX8_leave σ th a1).2.1 (fX8_leave σ th a1).2.2 r ar h' ∧ xF r ar h h')) 0 0 (xA lo) := by
  obtain ⟨G, hG⟩ : ∃ G, fX8_leave σ th a1 = G := ⟨_, rfl⟩
  rw [hG]
  unfold fX8_leave at hG
  refine Met.ofW (cc := cX8_leave) (maxL := 4) (ret := (some .int)) (by decide) rfl ?_
  intro p e s m args below meth c s₁ B hml hv
  obtain ⟨rfl, I⟩ := hv
  have hx := B.exec
  have hb := B.bytes
  have hr := B.returns
  have hts := atoms_spec (ws := wsX8_leave) B.pre
  have hown : s.vm.findClass RX8 = some m.cls := findClass_of_methodNamed B.named
  have hlocks := B.notSynchronized
  have hl := lv_entry ([.ref r, .int a1] : List Value) (n := 4) (Nat.le_of_ble_eq_true rfl)
  rw [lg_entry_eq]
  generalize (lg_sl ([.ref r, .int a1] : List Value) ++ List.replicate (4 - (lg_sl ([.ref r, .int a1] : List Value)).length) Slot.unset).toArray = ls at hl ⊢
  have hl : lv_has ls 4 [(0, .ref r), (1, .int a1)] := hl
  have hin8 : ∀ w ∈ u_ws RX8 TX8 37, w ∈ wsX8_leave := fun _ h => List.mem_cons_of_mem _ (List.mem_append_right _ (h))
  have hW0 := hW
  obtain ⟨⟨w1, w2, w3, w4, w5, w6, w7⟩, w9, w12, w21, w22, w23, w25, w31, z26, z27, z28, z36⟩ := id hW
  have hS : va_S (xA lo) s.heap s.heap [] := va_S.rf
  have hF : xF r ar h h := xF.rf
  refine lv_aload_n hx hb dX8_leave_0 rfl (lv_at hl 0 rfl) ?_
  refine lv_iload_n hx hb dX8_leave_1 rfl (lv_at hl 1 rfl) ?_
  refine xcvR (As := [.int a1]) (rest := []) (v := some (.int (fX8_isShip σ a1))) ⟨hx, hb, hml, hown, hts⟩ (mX8_isShip l lo D E h σ th r ar hR hW a1  ) (cwV 1 hts gX8_leave_X8_isShip rfl rfl rfl (by decide +kernel) ⟨Nat.le_of_ble_eq_true rfl, Nat.le_of_ble_eq_true rfl⟩) I hR.1 rfl rfl hl.1 rfl (Nat.le_of_ble_eq_true rfl) dX8_leave_2 ⟨Nat.le_of_ble_eq_true rfl, Nat.le_of_ble_eq_true rfl⟩ ?_
  refine W.eq (g2 := F0 m 5 ls [.int (fX8_isShip σ a1)]) rfl ?_
  refine lv_istore_n (lv' := [(2, .int (fX8_isShip σ a1)), (0, .ref r), (1, .int a1)]) hx hb dX8_leave_5 rfl hl (by decide) rfl (fun ls hl => ?_)
  refine lv_iload_n hx hb dX8_leave_6 rfl (lv_at hl 0 rfl) ?_
  refine lv_if_eq (tgt := 18) hx hb dX8_leave_7 (by decide) (fun c_7 => ?_) (fun c_7 => ?_)
  · skip
    rw [if_pos c_7] at hG
    refine lv_iconst (v := (-1)) hx hb dX8_leave_18 (by decide) ?_
    refine lv_istore_n (lv' := [(3, .int (-1)), (2, .int (fX8_isShip σ a1)), (0, .ref r), (1, .int a1)]) hx hb dX8_leave_19 rfl hl (by decide) rfl (fun ls hl => ?_)
    refine lv_aload_n hx hb dX8_leave_20 rfl (lv_at hl 2 rfl) ?_
    refine lv_iload_n hx hb dX8_leave_21 rfl (lv_at hl 1 rfl) ?_
    refine lv_if_ne (tgt := 29) hx hb dX8_leave_22 (by decide) (fun q => absurd c_7 q) (fun _ => ?_)
    refine lv_iconst (v := (nI 1)) hx hb dX8_leave_25 (by decide) ?_
    refine lv_goto (tgt := 39) hx hb dX8_leave_26 (by decide) ?_
    refine xputM 0 hx hb hts hin8 hown I hS hR hF (by decide) (List.mem_of_getElem? (i := 1) rfl) rfl rfl rfl rfl rfl (hR.putTh _) dX8_leave_39 (fun H locs hw I hR hF hS => ?_)
    refine lv_aload_n hx hb dX8_leave_42 rfl (lv_at hl 2 rfl) ?_
    refine xget (C := RX8) (T := TX8) (N := 37) 0 hx hb hts hin8 hown I hR.1 rfl (by decide) (List.mem_of_getElem? (i := 1) rfl) rfl rfl dX8_leave_43 ?_
    refine lv_if_le (tgt := 51) hx hb dX8_leave_46 (by decide) (fun q => absurd q (by decide)) (fun _ => ?_)
    refine lv_iconst (v := (nI 0)) hx hb dX8_leave_49 (by decide) ?_
    subst hG
    exact xriQ hx hb hr hlocks dX8_leave_50 I hS ⟨rfl, hR, hF⟩
  · skip
    rw [if_neg c_7] at hG
    obtain ⟨e_a1, l_a1⟩ := ok_isShip hW c_7
    refine lv_aload_n hx hb dX8_leave_10 rfl (lv_at hl 1 rfl) ?_
    refine lv_iload_n hx hb dX8_leave_11 rfl (lv_at hl 2 rfl) ?_
    refine xtop (y := .int (nI (tn a1))) (congrArg Value.int e_a1) ?_
    refine xcvR (As := [.int (nI (tn a1))]) (rest := []) (v := some (.int (fX8_open σ (nI (tn a1))))) ⟨hx, hb, hml, hown, hts⟩ (mX8_open l lo D E h σ th r ar hR hW (nI (tn a1))  ) (cwV 1 hts gX8_leave_X8_open rfl rfl rfl (by decide +kernel) ⟨Nat.le_of_ble_eq_true rfl, Nat.le_of_ble_eq_true rfl⟩) I hR.1 rfl rfl hl.1 rfl (Nat.le_of_ble_eq_true rfl) dX8_leave_12 ⟨Nat.le_of_ble_eq_true rfl, Nat.le_of_ble_eq_true rfl⟩ ?_
    refine W.eq (g2 := F0 m 15 ls [.int (fX8_open σ (nI (tn a1)))]) rfl ?_
    refine lv_goto (tgt := 19) hx hb dX8_leave_15 (by decide) ?_
    refine lv_istore_n (lv' := [(3, .int (fX8_open σ (nI (tn a1)))), (2, .int (fX8_isShip σ a1)), (0, .ref r), (1, .int a1)]) hx hb dX8_leave_19 rfl hl (by decide) rfl (fun ls hl => ?_)
    refine lv_aload_n hx hb dX8_leave_20 rfl (lv_at hl 2 rfl) ?_
    refine lv_iload_n hx hb dX8_leave_21 rfl (lv_at hl 1 rfl) ?_
    refine lv_if_ne (tgt := 29) hx hb dX8_leave_22 (by decide) (fun _ => ?_) (fun q => absurd q c_7)
    refine lv_iload_n hx hb dX8_leave_29 rfl (lv_at hl 0 rfl) ?_
    refine lv_iconst (v := (-1)) hx hb dX8_leave_30 (by decide) ?_
    refine lv_icmp_ne (tgt := 38) hx hb dX8_leave_31 (by decide) (fun c_31 => ?_) (fun c_31 => ?_)
    · skip
      rw [if_neg c_31] at hG
      refine lv_iconst (v := (nI 0)) hx hb dX8_leave_38 (by decide) ?_
      refine xputM 0 hx hb hts hin8 hown I hS hR hF (by decide) (List.mem_of_getElem? (i := 1) rfl) rfl rfl rfl rfl rfl (hR.putTh _) dX8_leave_39 (fun H locs hw I hR hF hS => ?_)
      refine lv_aload_n hx hb dX8_leave_42 rfl (lv_at hl 2 rfl) ?_
      refine xget (C := RX8) (T := TX8) (N := 37) 0 hx hb hts hin8 hown I hR.1 rfl (by decide) (List.mem_of_getElem? (i := 1) rfl) rfl rfl dX8_leave_43 ?_
      refine lv_if_le (tgt := 51) hx hb dX8_leave_46 (by decide) (fun _ => ?_) (fun q => absurd (by decide) q)
      refine lv_aload_n hx hb dX8_leave_51 rfl (lv_at hl 2 rfl) ?_
      refine xget (C := RX8) (T := TX8) (N := 37) 14 hx hb hts hin8 hown I hR.1 rfl (by decide) (List.mem_of_getElem? (i := 2) rfl) rfl rfl dX8_leave_52 ?_
      refine lv_iload_n hx hb dX8_leave_55 rfl (lv_at hl 0 rfl) ?_
      refine lv_aload_n hx hb dX8_leave_56 rfl (lv_at hl 2 rfl) ?_
      refine xget (C := RX8) (T := TX8) (N := 37) 1 hx hb hts hin8 hown I hR.1 rfl (by decide) (List.mem_of_getElem? (i := 3) rfl) rfl rfl dX8_leave_57 ?_
      refine xtop2 (y := .int (nI (tn (fX8_open σ (nI (tn a1)))))) (congrArg Value.int (open_ok hW0 c_31).1) ?_
      refine xiM (i := (tn (fX8_open σ (nI (tn a1))))) (n := 60) 14 hx hb I hS hR hF (by decide) (by have := (open_ok hW0 c_31).2; omega) (by decide) dX8_leave_60 (fun H locs hw I hR hF hS => ?_)
      have hW := hW.sI (k := 14) (by decide) (tn (fX8_open σ (nI (tn a1)))) (nI (mN σ 1))
      refine lv_aload_n hx hb dX8_leave_61 rfl (lv_at hl 2 rfl) ?_
      refine xget (C := RX8) (T := TX8) (N := 37) 1 hx hb hts hin8 hown I hR.1 rfl (by decide) (List.mem_of_getElem? (i := 3) rfl) rfl rfl dX8_leave_62 ?_
      refine lv_aload_n hx hb dX8_leave_65 rfl (lv_at hl 2 rfl) ?_
      refine xget (C := RX8) (T := TX8) (N := 37) 13 hx hb hts hin8 hown I hR.1 rfl (by decide) (List.mem_of_getElem? (i := 4) rfl) rfl rfl dX8_leave_66 ?_
      refine lv_iload_n hx hb dX8_leave_69 rfl (lv_at hl 0 rfl) ?_
      refine xtop (y := .int (nI (tn (fX8_open σ (nI (tn a1)))))) (congrArg Value.int (open_ok hW0 c_31).1) ?_
      refine xiald (i := (tn (fX8_open σ (nI (tn a1))))) (n := 60) hx hb I (hR.2.1 13 60 (by decide)) (by have := (open_ok hW0 c_31).2; omega) (by decide) dX8_leave_70 ?_
      refine W.eq (g2 := F0 m 71 ls [.int (mI σ 13 (tn (fX8_open σ (nI (tn a1))))), .int (nI (mN σ 1))]) rfl ?_
      refine lv_isub hx hb dX8_leave_71 ?_
      subst hG
      exact xriQ hx hb hr hlocks dX8_leave_72 I hS ⟨rfl, hR, hF⟩
    · skip
      rw [if_pos c_31] at hG
      refine lv_iconst (v := (nI 2)) hx hb dX8_leave_34 (by decide) ?_
      refine lv_goto (tgt := 39) hx hb dX8_leave_35 (by decide) ?_
      refine xputM 0 hx hb hts hin8 hown I hS hR hF (by decide) (List.mem_of_getElem? (i := 1) rfl) rfl rfl rfl rfl rfl (hR.putTh _) dX8_leave_39 (fun H locs hw I hR hF hS => ?_)
      refine lv_aload_n hx hb dX8_leave_42 rfl (lv_at hl 2 rfl) ?_
      refine xget (C := RX8) (T := TX8) (N := 37) 0 hx hb hts hin8 hown I hR.1 rfl (by decide) (List.mem_of_getElem? (i := 1) rfl) rfl rfl dX8_leave_43 ?_
      refine lv_if_le (tgt := 51) hx hb dX8_leave_46 (by decide) (fun q => absurd q (by decide)) (fun _ => ?_)
      refine lv_iconst (v := (nI 0)) hx hb dX8_leave_49 (by decide) ?_
      subst hG
      exact xriQ hx hb hr hlocks dX8_leave_50 I hS ⟨rfl, hR, hF⟩

def fX8_adds (σ : MT) (th : Int32) (s1 : Nat) (k1 : Nat) (i1 : Nat) (x1 : Int32) (e1 : Nat) : Int32 × MT × Int32 := (((nI (mN σ 20 + 1)) - (nI 1)), (mSK (mSK (mSK (mSI (mSK (mSK (mSK σ 21 (mN σ 20) s1) 22 (mN σ 20) k1) 23 (mN σ 20) i1) 24 (mN σ 20) x1) 25 (mN σ 20) e1) 31 e1 i1) 20 0 (mN σ 20 + 1)), th)
set_option maxHeartbeats 4000000 in
set_option maxRecDepth 100000 in
theorem mX8_adds (l : Launch) (lo : Nat) (D : va_G) (E : Nat → ClassId) (h : XW) (σ : MT) (th : Int32) (r : Nat) (ar : Nat → Nat) (hR : RM E σ th r ar h) (s1 : Nat) (k1 : Nat) (i1 : Nat) (x1 : Int32) (e1 : Nat) (hc : mN σ 20 < 60) (he : e1 < 60) : Met l yX8_adds wsX8_adds ({ frames := 0, cells := 0, slots := 0, locals := 0 } : Room) (xP lo D E h [.ref r, .int (nI s1), .int (nI k1), .int (nI i1), .int x1, .int (nI e1)]) (xQ lo D (fun v h' => v = some (.int (fX8_adds σ th s1 k1 i1 x1 e1).1) ∧ RM E (fX8_adds σ th s1 k1 i1 x1 e1).2.1 (fX8_adds σ th s1 k1 i1 x1 e1).2.2 r ar h' ∧ xF r ar h h')) 0 0 (xA lo) := by
  obtain ⟨G, hG⟩ : ∃ G, fX8_adds σ th s1 k1 i1 x1 e1 = G := ⟨_, rfl⟩
  rw [hG]
  unfold fX8_adds at hG
  refine Met.ofW (cc := cX8_adds) (maxL := 6) (ret := (some .int)) (by decide) rfl ?_
  intro p e s m args below meth c s₁ B hml hv
  obtain ⟨rfl, I⟩ := hv
  have hx := B.exec
  have hb := B.bytes
  have hr := B.returns
  have hts := atoms_spec (ws := wsX8_adds) B.pre
  have hown : s.vm.findClass RX8 = some m.cls := findClass_of_methodNamed B.named
  have hlocks := B.notSynchronized
  have hl := lv_entry ([.ref r, .int (nI s1), .int (nI k1), .int (nI i1), .int x1, .int (nI e1)] : List Value) (n := 6) (Nat.le_of_ble_eq_true rfl)
  rw [lg_entry_eq]
  generalize (lg_sl ([.ref r, .int (nI s1), .int (nI k1), .int (nI i1), .int x1, .int (nI e1)] : List Value) ++ List.replicate (6 - (lg_sl ([.ref r, .int (nI s1), .int (nI k1), .int (nI i1), .int x1, .int (nI e1)] : List Value)).length) Slot.unset).toArray = ls at hl ⊢
  have hl : lv_has ls 6 [(0, .ref r), (1, .int (nI s1)), (2, .int (nI k1)), (3, .int (nI i1)), (4, .int x1), (5, .int (nI e1))] := hl
  have hin8 : ∀ w ∈ u_ws RX8 TX8 37, w ∈ wsX8_adds := fun _ h => List.mem_cons_of_mem _ (List.mem_append_right _ (h))
  have hS : va_S (xA lo) s.heap s.heap [] := va_S.rf
  have hF : xF r ar h h := xF.rf
  refine lv_aload_n hx hb dX8_adds_0 rfl (lv_at hl 0 rfl) ?_
  refine xget (C := RX8) (T := TX8) (N := 37) 21 hx hb hts hin8 hown I hR.1 rfl (by decide) (List.mem_of_getElem? (i := 1) rfl) rfl rfl dX8_adds_1 ?_
  refine lv_aload_n hx hb dX8_adds_4 rfl (lv_at hl 0 rfl) ?_
  refine xget (C := RX8) (T := TX8) (N := 37) 20 hx hb hts hin8 hown I hR.1 rfl (by decide) (List.mem_of_getElem? (i := 2) rfl) rfl rfl dX8_adds_5 ?_
  refine lv_iload_n hx hb dX8_adds_8 rfl (lv_at hl 1 rfl) ?_
  refine xkM (i := (mN σ 20)) (n := 60) 21 hx hb I hS hR hF (by decide) (by omega) (by decide) dX8_adds_9 (fun H locs hw I hR hF hS => ?_)
  refine lv_aload_n hx hb dX8_adds_10 rfl (lv_at hl 0 rfl) ?_
  refine xget (C := RX8) (T := TX8) (N := 37) 22 hx hb hts hin8 hown I hR.1 rfl (by decide) (List.mem_of_getElem? (i := 3) rfl) rfl rfl dX8_adds_11 ?_
  refine lv_aload_n hx hb dX8_adds_14 rfl (lv_at hl 0 rfl) ?_
  refine xget (C := RX8) (T := TX8) (N := 37) 20 hx hb hts hin8 hown I hR.1 rfl (by decide) (List.mem_of_getElem? (i := 2) rfl) rfl rfl dX8_adds_15 ?_
  refine lv_iload_n hx hb dX8_adds_18 rfl (lv_at hl 2 rfl) ?_
  refine xkM (i := (mN σ 20)) (n := 60) 22 hx hb I hS hR hF (by decide) (by omega) (by decide) dX8_adds_19 (fun H locs hw I hR hF hS => ?_)
  refine lv_aload_n hx hb dX8_adds_20 rfl (lv_at hl 0 rfl) ?_
  refine xget (C := RX8) (T := TX8) (N := 37) 23 hx hb hts hin8 hown I hR.1 rfl (by decide) (List.mem_of_getElem? (i := 4) rfl) rfl rfl dX8_adds_21 ?_
  refine lv_aload_n hx hb dX8_adds_24 rfl (lv_at hl 0 rfl) ?_
  refine xget (C := RX8) (T := TX8) (N := 37) 20 hx hb hts hin8 hown I hR.1 rfl (by decide) (List.mem_of_getElem? (i := 2) rfl) rfl rfl dX8_adds_25 ?_
  refine lv_iload_n hx hb dX8_adds_28 rfl (lv_at hl 3 rfl) ?_
  refine xkM (i := (mN σ 20)) (n := 60) 23 hx hb I hS hR hF (by decide) (by omega) (by decide) dX8_adds_29 (fun H locs hw I hR hF hS => ?_)
  refine lv_aload_n hx hb dX8_adds_30 rfl (lv_at hl 0 rfl) ?_
  refine xget (C := RX8) (T := TX8) (N := 37) 24 hx hb hts hin8 hown I hR.1 rfl (by decide) (List.mem_of_getElem? (i := 5) rfl) rfl rfl dX8_adds_31 ?_
  refine lv_aload_n hx hb dX8_adds_34 rfl (lv_at hl 0 rfl) ?_
  refine xget (C := RX8) (T := TX8) (N := 37) 20 hx hb hts hin8 hown I hR.1 rfl (by decide) (List.mem_of_getElem? (i := 2) rfl) rfl rfl dX8_adds_35 ?_
  refine lv_iload hx hb dX8_adds_38 (lv_at hl 4 rfl) ?_
  refine xiM (i := (mN σ 20)) (n := 60) 24 hx hb I hS hR hF (by decide) (by omega) (by decide) dX8_adds_40 (fun H locs hw I hR hF hS => ?_)
  refine lv_aload_n hx hb dX8_adds_41 rfl (lv_at hl 0 rfl) ?_
  refine xget (C := RX8) (T := TX8) (N := 37) 25 hx hb hts hin8 hown I hR.1 rfl (by decide) (List.mem_of_getElem? (i := 6) rfl) rfl rfl dX8_adds_42 ?_
  refine lv_aload_n hx hb dX8_adds_45 rfl (lv_at hl 0 rfl) ?_
  refine xget (C := RX8) (T := TX8) (N := 37) 20 hx hb hts hin8 hown I hR.1 rfl (by decide) (List.mem_of_getElem? (i := 2) rfl) rfl rfl dX8_adds_46 ?_
  refine lv_iload hx hb dX8_adds_49 (lv_at hl 5 rfl) ?_
  refine xkM (i := (mN σ 20)) (n := 60) 25 hx hb I hS hR hF (by decide) (by omega) (by decide) dX8_adds_51 (fun H locs hw I hR hF hS => ?_)
  refine lv_aload_n hx hb dX8_adds_52 rfl (lv_at hl 0 rfl) ?_
  refine xget (C := RX8) (T := TX8) (N := 37) 31 hx hb hts hin8 hown I hR.1 rfl (by decide) (List.mem_of_getElem? (i := 7) rfl) rfl rfl dX8_adds_53 ?_
  refine lv_iload hx hb dX8_adds_56 (lv_at hl 5 rfl) ?_
  refine lv_iload_n hx hb dX8_adds_58 rfl (lv_at hl 3 rfl) ?_
  refine xkM (i := e1) (n := 60) 31 hx hb I hS hR hF (by decide) (by omega) (by decide) dX8_adds_59 (fun H locs hw I hR hF hS => ?_)
  refine lv_aload_n hx hb dX8_adds_60 rfl (lv_at hl 0 rfl) ?_
  refine lv_dup hx hb dX8_adds_61 rfl ?_
  refine xget (C := RX8) (T := TX8) (N := 37) 20 hx hb hts hin8 hown I hR.1 rfl (by decide) (List.mem_of_getElem? (i := 2) rfl) rfl rfl dX8_adds_62 ?_
  refine lv_iconst (v := (nI 1)) hx hb dX8_adds_65 (by decide) ?_
  refine lv_iadd hx hb dX8_adds_66 ?_
  refine xtop (y := .int (nI (mN σ 20 + 1))) (congrArg Value.int (nI_add _ _)) ?_
  refine xputM 20 hx hb hts hin8 hown I hS hR hF (by decide) (List.mem_of_getElem? (i := 2) rfl) rfl rfl rfl rfl rfl (hR.putN (by decide) (mN σ 20 + 1)) dX8_adds_67 (fun H locs hw I hR hF hS => ?_)
  refine lv_aload_n hx hb dX8_adds_70 rfl (lv_at hl 0 rfl) ?_
  refine xget (C := RX8) (T := TX8) (N := 37) 20 hx hb hts hin8 hown I hR.1 rfl (by decide) (List.mem_of_getElem? (i := 2) rfl) rfl rfl dX8_adds_71 ?_
  refine lv_iconst (v := (nI 1)) hx hb dX8_adds_74 (by decide) ?_
  refine lv_isub hx hb dX8_adds_75 ?_
  subst hG
  exact xriQ hx hb hr hlocks dX8_adds_76 I hS ⟨rfl, hR, hF⟩

theorem adds_N (σ : MT) (th : Int32) (s1 k1 i1 : Nat) (x1 : Int32) (e1 : Nat) : mN (fX8_adds σ th s1 k1 i1 x1 e1).2.1 20 = mN σ 20 + 1 ∧ mN (fX8_adds σ th s1 k1 i1 x1 e1).2.1 30 = mN σ 30 := ⟨rfl, rfl⟩

def fX8_claim (σ : MT) (th : Int32) (a1 : Int32) (a2 : Int32) (a3 : Int32) (a4 : Int32) (a5 : Int32) : Int32 × MT × Int32 := (if (fX8_isShip σ a1) = 0 then ((nI 0), σ, (nI 1)) else (if a5 = (-1) then (if (fX8_isKind a2) = 0 then ((nI 0), σ, (nI 2)) else (if (fX8_isIn a3 (nI 0) (nI (mN σ 1))) = 0 then ((nI 0), σ, (nI 2)) else (if (fX8_isLoss a4) = 0 then ((nI 0), σ, (nI 2)) else (if (nI ((tn a3) / 100)) < (nI (mN σ 34)) then ((nI 0), σ, (nI 3)) else (if (nI (mN σ 20)) = (nI 60) then ((nI 0), σ, (nI 3)) else ((fX8_adds (mSK σ 30 0 (mN σ 30 + 1)) (nI 0) (tn a1) (tn a2) (tn a3) (nI (tn a4)) (mN σ 30 + 1 - 1)).1, (fX8_adds (mSK σ 30 0 (mN σ 30 + 1)) (nI 0) (tn a1) (tn a2) (tn a3) (nI (tn a4)) (mN σ 30 + 1 - 1)).2.1, (fX8_adds (mSK σ 30 0 (mN σ 30 + 1)) (nI 0) (tn a1) (tn a2) (tn a3) (nI (tn a4)) (mN σ 30 + 1 - 1)).2.2)))))) else (if (fX8_isIn a5 (nI 0) ((nI (mN σ 30)) - (nI 1))) = 0 then ((nI 0), σ, (nI 1)) else (if (fX8_isKind a2) = 0 then ((nI 0), σ, (nI 2)) else (if (fX8_isIn a3 (nI 0) (nI (mN σ 1))) = 0 then ((nI 0), σ, (nI 2)) else (if (fX8_isLoss a4) = 0 then ((nI 0), σ, (nI 2)) else (if (nI (tn a5)) = (-1) then (if (nI ((tn a3) / 100)) < (nI (mN σ 34)) then ((nI 0), σ, (nI 3)) else (if (nI (mN σ 20)) = (nI 60) then ((nI 0), σ, (nI 3)) else ((fX8_adds (mSK σ 30 0 (mN σ 30 + 1)) (nI 0) (tn a1) (tn a2) (tn a3) (nI (tn a4)) (mN σ 30 + 1 - 1)).1, (fX8_adds (mSK σ 30 0 (mN σ 30 + 1)) (nI 0) (tn a1) (tn a2) (tn a3) (nI (tn a4)) (mN σ 30 + 1 - 1)).2.1, (fX8_adds (mSK σ 30 0 (mN σ 30 + 1)) (nI 0) (tn a1) (tn a2) (tn a3) (nI (tn a4)) (mN σ 30 + 1 - 1)).2.2))) else (if (nI (mK σ 31 (tn a5))) = (nI (tn a3)) then (if (nI ((tn a3) / 100)) < (nI (mN σ 34)) then ((nI 0), σ, (nI 3)) else (if (nI (mN σ 20)) = (nI 60) then ((nI 0), σ, (nI 3)) else ((fX8_adds (mSK σ 30 0 (mN σ 30 + 0)) (nI 0) (tn a1) (tn a2) (tn a3) (nI (tn a4)) (tn a5)).1, (fX8_adds (mSK σ 30 0 (mN σ 30 + 0)) (nI 0) (tn a1) (tn a2) (tn a3) (nI (tn a4)) (tn a5)).2.1, (fX8_adds (mSK σ 30 0 (mN σ 30 + 0)) (nI 0) (tn a1) (tn a2) (tn a3) (nI (tn a4)) (tn a5)).2.2))) else ((nI 0), σ, (nI 2))))))))))
set_option maxHeartbeats 4000000 in
set_option maxRecDepth 100000 in
theorem mX8_claim (l : Launch) (lo : Nat) (D : va_G) (E : Nat → ClassId) (h : XW) (σ : MT) (th : Int32) (r : Nat) (ar : Nat → Nat) (hR : RM E σ th r ar h) (hW : MW σ) (a1 : Int32) (a2 : Int32) (a3 : Int32) (a4 : Int32) (a5 : Int32) : Met l yX8_claim wsX8_claim ({ frames := 2, cells := 0, slots := 0, locals := 43 } : Room) (xP lo D E h [.ref r, .int a1, .int a2, .int a3, .int a4, .int a5]) (xQ lo D (fun v h' => v = some (.int (fX8_claim σ th a1 a2 a3 a4 a5).1) ∧ RM E (fX8_claim σ th a1 a2 a3 a4 a5).2.1 (fX8_claim σ th a1 a2 a3 a4 a5).2.2 r ar h' ∧ xF r ar h h')) 0 0 (xA lo) := by
  obtain ⟨G, hG⟩ : ∃ G, fX8_claim σ th a1 a2 a3 a4 a5 = G := ⟨_, rfl⟩
  rw [hG]
  unfold fX8_claim at hG
  refine Met.ofW (cc := cX8_claim) (maxL := 8) (ret := (some .int)) (by decide) rfl ?_
  intro p e s m args below meth c s₁ B hml hv
  obtain ⟨rfl, I⟩ := hv
  have hx := B.exec
  have hb := B.bytes
  have hr := B.returns
  have hts := atoms_spec (ws := wsX8_claim) B.pre
  have hown : s.vm.findClass RX8 = some m.cls := findClass_of_methodNamed B.named
  have hlocks := B.notSynchronized
  have hl := lv_entry ([.ref r, .int a1, .int a2, .int a3, .int a4, .int a5] : List Value) (n := 8) (Nat.le_of_ble_eq_true rfl)
  rw [lg_entry_eq]
  generalize (lg_sl ([.ref r, .int a1, .int a2, .int a3, .int a4, .int a5] : List Value) ++ List.replicate (8 - (lg_sl ([.ref r, .int a1, .int a2, .int a3, .int a4, .int a5] : List Value)).length) Slot.unset).toArray = ls at hl ⊢
  have hl : lv_has ls 8 [(0, .ref r), (1, .int a1), (2, .int a2), (3, .int a3), (4, .int a4), (5, .int a5)] := hl
  have hin8 : ∀ w ∈ u_ws RX8 TX8 37, w ∈ wsX8_claim := fun _ h => List.mem_cons_of_mem _ (List.mem_append_right _ (h))
  have hW0 := hW
  obtain ⟨⟨w1, w2, w3, w4, w5, w6, w7⟩, w9, w12, w21, w22, w23, w25, w31, z26, z27, z28, z36⟩ := id hW
  have hS : va_S (xA lo) s.heap s.heap [] := va_S.rf
  have hF : xF r ar h h := xF.rf
  refine lv_aload_n hx hb dX8_claim_0 rfl (lv_at hl 0 rfl) ?_
  refine lv_iload_n hx hb dX8_claim_1 rfl (lv_at hl 1 rfl) ?_
  refine xcvR (As := [.int a1]) (rest := []) (v := some (.int (fX8_isShip σ a1))) ⟨hx, hb, hml, hown, hts⟩ (mX8_isShip l lo D E h σ th r ar hR hW a1  ) (cwV 1 hts gX8_claim_X8_isShip rfl rfl rfl (by decide +kernel) ⟨Nat.le_of_ble_eq_true rfl, Nat.le_of_ble_eq_true rfl⟩) I hR.1 rfl rfl hl.1 rfl (Nat.le_of_ble_eq_true rfl) dX8_claim_2 ⟨Nat.le_of_ble_eq_true rfl, Nat.le_of_ble_eq_true rfl⟩ ?_
  refine W.eq (g2 := F0 m 5 ls [.int (fX8_isShip σ a1)]) rfl ?_
  refine lv_if_eq (tgt := 33) hx hb dX8_claim_5 (by decide) (fun c_5 => ?_) (fun c_5 => ?_)
  · skip
    rw [if_pos c_5] at hG
    refine lv_iconst (v := (nI 0)) hx hb dX8_claim_33 (by decide) ?_
    refine lv_istore (lv' := [(6, .int (nI 0)), (0, .ref r), (1, .int a1), (2, .int a2), (3, .int a3), (4, .int a4), (5, .int a5)]) hx hb dX8_claim_34 hl (by decide) rfl (fun ls hl => ?_)
    refine lv_iload hx hb dX8_claim_36 (lv_at hl 0 rfl) ?_
    refine lv_if_eq (tgt := 89) hx hb dX8_claim_38 (by decide) (fun _ => ?_) (fun q => absurd (by decide) q)
    refine lv_iconst (v := (nI 0)) hx hb dX8_claim_89 (by decide) ?_
    refine lv_istore (lv' := [(7, .int (nI 0)), (6, .int (nI 0)), (0, .ref r), (1, .int a1), (2, .int a2), (3, .int a3), (4, .int a4), (5, .int a5)]) hx hb dX8_claim_90 hl (by decide) rfl (fun ls hl => ?_)
    refine lv_aload_n hx hb dX8_claim_92 rfl (lv_at hl 2 rfl) ?_
    refine lv_iload hx hb dX8_claim_93 (lv_at hl 1 rfl) ?_
    refine lv_if_ne (tgt := 102) hx hb dX8_claim_95 (by decide) (fun q => absurd (by decide) q) (fun _ => ?_)
    refine lv_iconst (v := (nI 1)) hx hb dX8_claim_98 (by decide) ?_
    refine lv_goto (tgt := 136) hx hb dX8_claim_99 (by decide) ?_
    refine xputM 0 hx hb hts hin8 hown I hS hR hF (by decide) (List.mem_of_getElem? (i := 6) rfl) rfl rfl rfl rfl rfl (hR.putTh _) dX8_claim_136 (fun H locs hw I hR hF hS => ?_)
    refine lv_aload_n hx hb dX8_claim_139 rfl (lv_at hl 2 rfl) ?_
    refine xget (C := RX8) (T := TX8) (N := 37) 0 hx hb hts hin8 hown I hR.1 rfl (by decide) (List.mem_of_getElem? (i := 6) rfl) rfl rfl dX8_claim_140 ?_
    refine lv_if_le (tgt := 148) hx hb dX8_claim_143 (by decide) (fun q => absurd q (by decide)) (fun _ => ?_)
    refine lv_iconst (v := (nI 0)) hx hb dX8_claim_146 (by decide) ?_
    subst hG
    exact xriQ hx hb hr hlocks dX8_claim_147 I hS ⟨rfl, hR, hF⟩
  · skip
    rw [if_neg c_5] at hG
    obtain ⟨e_a1, l_a1⟩ := ok_isShip hW c_5
    refine lv_iload hx hb dX8_claim_8 (lv_at hl 5 rfl) ?_
    refine lv_iconst (v := (-1)) hx hb dX8_claim_10 (by decide) ?_
    refine lv_icmp_eq (tgt := 29) hx hb dX8_claim_11 (by decide) (fun c_11 => ?_) (fun c_11 => ?_)
    · skip
      rw [if_pos c_11] at hG
      refine lv_iconst (v := (nI 1)) hx hb dX8_claim_29 (by decide) ?_
      refine lv_goto (tgt := 34) hx hb dX8_claim_30 (by decide) ?_
      refine lv_istore (lv' := [(6, .int (nI 1)), (0, .ref r), (1, .int a1), (2, .int a2), (3, .int a3), (4, .int a4), (5, .int a5)]) hx hb dX8_claim_34 hl (by decide) rfl (fun ls hl => ?_)
      refine lv_iload hx hb dX8_claim_36 (lv_at hl 0 rfl) ?_
      refine lv_if_eq (tgt := 89) hx hb dX8_claim_38 (by decide) (fun q => absurd q (by decide)) (fun _ => ?_)
      refine lv_iload_n hx hb dX8_claim_41 rfl (lv_at hl 3 rfl) ?_
      refine xcsR (As := [.int a2]) (rest := []) (v := some (.int (fX8_isKind a2))) ⟨hx, hb, hml, hown, hts⟩ (mX8_isKind l lo D E h  a2  ) (va_cwS 1 hts gX8_claim_X8_isKind rfl rfl rfl (by decide +kernel) ⟨Nat.le_of_ble_eq_true rfl, Nat.le_of_ble_eq_true rfl⟩) I rfl hl.1 rfl (Nat.le_of_ble_eq_true rfl) dX8_claim_42 ⟨Nat.le_of_ble_eq_true rfl, Nat.le_of_ble_eq_true rfl⟩ ?_
      refine W.eq (g2 := F0 m 45 ls [.int (fX8_isKind a2)]) rfl ?_
      refine lv_if_eq (tgt := 89) hx hb dX8_claim_45 (by decide) (fun c_45 => ?_) (fun c_45 => ?_)
      · skip
        rw [if_pos c_45] at hG
        refine lv_iconst (v := (nI 0)) hx hb dX8_claim_89 (by decide) ?_
        refine lv_istore (lv' := [(7, .int (nI 0)), (6, .int (nI 1)), (0, .ref r), (1, .int a1), (2, .int a2), (3, .int a3), (4, .int a4), (5, .int a5)]) hx hb dX8_claim_90 hl (by decide) rfl (fun ls hl => ?_)
        refine lv_aload_n hx hb dX8_claim_92 rfl (lv_at hl 2 rfl) ?_
        refine lv_iload hx hb dX8_claim_93 (lv_at hl 1 rfl) ?_
        refine lv_if_ne (tgt := 102) hx hb dX8_claim_95 (by decide) (fun _ => ?_) (fun q => absurd q (by decide))
        refine lv_iload hx hb dX8_claim_102 (lv_at hl 0 rfl) ?_
        refine lv_if_ne (tgt := 111) hx hb dX8_claim_104 (by decide) (fun q => absurd (by decide) q) (fun _ => ?_)
        refine lv_iconst (v := (nI 2)) hx hb dX8_claim_107 (by decide) ?_
        refine lv_goto (tgt := 136) hx hb dX8_claim_108 (by decide) ?_
        refine xputM 0 hx hb hts hin8 hown I hS hR hF (by decide) (List.mem_of_getElem? (i := 6) rfl) rfl rfl rfl rfl rfl (hR.putTh _) dX8_claim_136 (fun H locs hw I hR hF hS => ?_)
        refine lv_aload_n hx hb dX8_claim_139 rfl (lv_at hl 2 rfl) ?_
        refine xget (C := RX8) (T := TX8) (N := 37) 0 hx hb hts hin8 hown I hR.1 rfl (by decide) (List.mem_of_getElem? (i := 6) rfl) rfl rfl dX8_claim_140 ?_
        refine lv_if_le (tgt := 148) hx hb dX8_claim_143 (by decide) (fun q => absurd q (by decide)) (fun _ => ?_)
        refine lv_iconst (v := (nI 0)) hx hb dX8_claim_146 (by decide) ?_
        subst hG
        exact xriQ hx hb hr hlocks dX8_claim_147 I hS ⟨rfl, hR, hF⟩
      · skip
        rw [if_neg c_45] at hG
        obtain ⟨e_a2, l_a2⟩ := ok_isKind c_45
        refine lv_iload_n hx hb dX8_claim_48 rfl (lv_at hl 4 rfl) ?_
        refine lv_iconst (v := (nI 0)) hx hb dX8_claim_49 (by decide) ?_
        refine lv_aload_n hx hb dX8_claim_50 rfl (lv_at hl 1 rfl) ?_
        refine xget (C := RX8) (T := TX8) (N := 37) 1 hx hb hts hin8 hown I hR.1 rfl (by decide) (List.mem_of_getElem? (i := 2) rfl) rfl rfl dX8_claim_51 ?_
        refine xcsR (As := [.int a3, .int (nI 0), .int (nI (mN σ 1))]) (rest := []) (v := some (.int (fX8_isIn a3 (nI 0) (nI (mN σ 1))))) ⟨hx, hb, hml, hown, hts⟩ (mX8_isIn l lo D E h  a3 (nI 0) (nI (mN σ 1))  ) (va_cwS 3 hts gX8_claim_X8_isIn rfl rfl rfl (by decide +kernel) ⟨Nat.le_of_ble_eq_true rfl, Nat.le_of_ble_eq_true rfl⟩) I rfl hl.1 rfl (Nat.le_of_ble_eq_true rfl) dX8_claim_54 ⟨Nat.le_of_ble_eq_true rfl, Nat.le_of_ble_eq_true rfl⟩ ?_
        refine W.eq (g2 := F0 m 57 ls [.int (fX8_isIn a3 (nI 0) (nI (mN σ 1)))]) rfl ?_
        refine lv_if_eq (tgt := 89) hx hb dX8_claim_57 (by decide) (fun c_57 => ?_) (fun c_57 => ?_)
        · skip
          rw [if_pos c_57] at hG
          refine lv_iconst (v := (nI 0)) hx hb dX8_claim_89 (by decide) ?_
          refine lv_istore (lv' := [(7, .int (nI 0)), (6, .int (nI 1)), (0, .ref r), (1, .int a1), (2, .int a2), (3, .int a3), (4, .int a4), (5, .int a5)]) hx hb dX8_claim_90 hl (by decide) rfl (fun ls hl => ?_)
          refine lv_aload_n hx hb dX8_claim_92 rfl (lv_at hl 2 rfl) ?_
          refine lv_iload hx hb dX8_claim_93 (lv_at hl 1 rfl) ?_
          refine lv_if_ne (tgt := 102) hx hb dX8_claim_95 (by decide) (fun _ => ?_) (fun q => absurd q (by decide))
          refine lv_iload hx hb dX8_claim_102 (lv_at hl 0 rfl) ?_
          refine lv_if_ne (tgt := 111) hx hb dX8_claim_104 (by decide) (fun q => absurd (by decide) q) (fun _ => ?_)
          refine lv_iconst (v := (nI 2)) hx hb dX8_claim_107 (by decide) ?_
          refine lv_goto (tgt := 136) hx hb dX8_claim_108 (by decide) ?_
          refine xputM 0 hx hb hts hin8 hown I hS hR hF (by decide) (List.mem_of_getElem? (i := 6) rfl) rfl rfl rfl rfl rfl (hR.putTh _) dX8_claim_136 (fun H locs hw I hR hF hS => ?_)
          refine lv_aload_n hx hb dX8_claim_139 rfl (lv_at hl 2 rfl) ?_
          refine xget (C := RX8) (T := TX8) (N := 37) 0 hx hb hts hin8 hown I hR.1 rfl (by decide) (List.mem_of_getElem? (i := 6) rfl) rfl rfl dX8_claim_140 ?_
          refine lv_if_le (tgt := 148) hx hb dX8_claim_143 (by decide) (fun q => absurd q (by decide)) (fun _ => ?_)
          refine lv_iconst (v := (nI 0)) hx hb dX8_claim_146 (by decide) ?_
          subst hG
          exact xriQ hx hb hr hlocks dX8_claim_147 I hS ⟨rfl, hR, hF⟩
        · skip
          rw [if_neg c_57] at hG
          obtain ⟨e_a3, l_a3⟩ := ok_isIn (by omega) c_57
          refine lv_iload hx hb dX8_claim_60 (lv_at hl 5 rfl) ?_
          refine xcsR (As := [.int a4]) (rest := []) (v := some (.int (fX8_isLoss a4))) ⟨hx, hb, hml, hown, hts⟩ (mX8_isLoss l lo D E h  a4  ) (va_cwS 1 hts gX8_claim_X8_isLoss rfl rfl rfl (by decide +kernel) ⟨Nat.le_of_ble_eq_true rfl, Nat.le_of_ble_eq_true rfl⟩) I rfl hl.1 rfl (Nat.le_of_ble_eq_true rfl) dX8_claim_62 ⟨Nat.le_of_ble_eq_true rfl, Nat.le_of_ble_eq_true rfl⟩ ?_
          refine W.eq (g2 := F0 m 65 ls [.int (fX8_isLoss a4)]) rfl ?_
          refine lv_if_eq (tgt := 89) hx hb dX8_claim_65 (by decide) (fun c_65 => ?_) (fun c_65 => ?_)
          · skip
            rw [if_pos c_65] at hG
            refine lv_iconst (v := (nI 0)) hx hb dX8_claim_89 (by decide) ?_
            refine lv_istore (lv' := [(7, .int (nI 0)), (6, .int (nI 1)), (0, .ref r), (1, .int a1), (2, .int a2), (3, .int a3), (4, .int a4), (5, .int a5)]) hx hb dX8_claim_90 hl (by decide) rfl (fun ls hl => ?_)
            refine lv_aload_n hx hb dX8_claim_92 rfl (lv_at hl 2 rfl) ?_
            refine lv_iload hx hb dX8_claim_93 (lv_at hl 1 rfl) ?_
            refine lv_if_ne (tgt := 102) hx hb dX8_claim_95 (by decide) (fun _ => ?_) (fun q => absurd q (by decide))
            refine lv_iload hx hb dX8_claim_102 (lv_at hl 0 rfl) ?_
            refine lv_if_ne (tgt := 111) hx hb dX8_claim_104 (by decide) (fun q => absurd (by decide) q) (fun _ => ?_)
            refine lv_iconst (v := (nI 2)) hx hb dX8_claim_107 (by decide) ?_
            refine lv_goto (tgt := 136) hx hb dX8_claim_108 (by decide) ?_
            refine xputM 0 hx hb hts hin8 hown I hS hR hF (by decide) (List.mem_of_getElem? (i := 6) rfl) rfl rfl rfl rfl rfl (hR.putTh _) dX8_claim_136 (fun H locs hw I hR hF hS => ?_)
            refine lv_aload_n hx hb dX8_claim_139 rfl (lv_at hl 2 rfl) ?_
            refine xget (C := RX8) (T := TX8) (N := 37) 0 hx hb hts hin8 hown I hR.1 rfl (by decide) (List.mem_of_getElem? (i := 6) rfl) rfl rfl dX8_claim_140 ?_
            refine lv_if_le (tgt := 148) hx hb dX8_claim_143 (by decide) (fun q => absurd q (by decide)) (fun _ => ?_)
            refine lv_iconst (v := (nI 0)) hx hb dX8_claim_146 (by decide) ?_
            subst hG
            exact xriQ hx hb hr hlocks dX8_claim_147 I hS ⟨rfl, hR, hF⟩
          · skip
            rw [if_neg c_65] at hG
            obtain ⟨e_a4, l_a4⟩ := ok_isLoss c_65
            refine lv_iload hx hb dX8_claim_68 (lv_at hl 6 rfl) ?_
            refine lv_iconst (v := (-1)) hx hb dX8_claim_70 (by decide) ?_
            refine lv_icmp_eq (tgt := 85) hx hb dX8_claim_71 (by decide) (fun _ => ?_) (fun q => absurd c_11 q)
            refine lv_iconst (v := (nI 1)) hx hb dX8_claim_85 (by decide) ?_
            refine lv_goto (tgt := 90) hx hb dX8_claim_86 (by decide) ?_
            refine lv_istore (lv' := [(7, .int (nI 1)), (6, .int (nI 1)), (0, .ref r), (1, .int a1), (2, .int a2), (3, .int a3), (4, .int a4), (5, .int a5)]) hx hb dX8_claim_90 hl (by decide) rfl (fun ls hl => ?_)
            refine lv_aload_n hx hb dX8_claim_92 rfl (lv_at hl 2 rfl) ?_
            refine lv_iload hx hb dX8_claim_93 (lv_at hl 1 rfl) ?_
            refine lv_if_ne (tgt := 102) hx hb dX8_claim_95 (by decide) (fun _ => ?_) (fun q => absurd q (by decide))
            refine lv_iload hx hb dX8_claim_102 (lv_at hl 0 rfl) ?_
            refine lv_if_ne (tgt := 111) hx hb dX8_claim_104 (by decide) (fun _ => ?_) (fun q => absurd q (by decide))
            refine lv_iload_n hx hb dX8_claim_111 rfl (lv_at hl 5 rfl) ?_
            refine xtop (y := .int (nI (tn a3))) (congrArg Value.int e_a3) ?_
            refine lv_bipush (v := (nI 100)) hx hb dX8_claim_112 (by decide) ?_
            refine lv_idiv hx hb dX8_claim_114 (by decide) ?_
            refine xtop (y := .int (nI ((tn a3) / 100))) (congrArg Value.int (pk_div (by omega) (by decide) (by decide))) ?_
            refine lv_aload_n hx hb dX8_claim_115 rfl (lv_at hl 2 rfl) ?_
            refine xget (C := RX8) (T := TX8) (N := 37) 34 hx hb hts hin8 hown I hR.1 rfl (by decide) (List.mem_of_getElem? (i := 4) rfl) rfl rfl dX8_claim_116 ?_
            refine lv_icmp_lt (tgt := 131) hx hb dX8_claim_119 (by decide) (fun c_119 => ?_) (fun c_119 => ?_)
            · skip
              rw [if_pos c_119] at hG
              refine lv_iconst (v := (nI 3)) hx hb dX8_claim_131 (by decide) ?_
              refine lv_goto (tgt := 136) hx hb dX8_claim_132 (by decide) ?_
              refine xputM 0 hx hb hts hin8 hown I hS hR hF (by decide) (List.mem_of_getElem? (i := 6) rfl) rfl rfl rfl rfl rfl (hR.putTh _) dX8_claim_136 (fun H locs hw I hR hF hS => ?_)
              refine lv_aload_n hx hb dX8_claim_139 rfl (lv_at hl 2 rfl) ?_
              refine xget (C := RX8) (T := TX8) (N := 37) 0 hx hb hts hin8 hown I hR.1 rfl (by decide) (List.mem_of_getElem? (i := 6) rfl) rfl rfl dX8_claim_140 ?_
              refine lv_if_le (tgt := 148) hx hb dX8_claim_143 (by decide) (fun q => absurd q (by decide)) (fun _ => ?_)
              refine lv_iconst (v := (nI 0)) hx hb dX8_claim_146 (by decide) ?_
              subst hG
              exact xriQ hx hb hr hlocks dX8_claim_147 I hS ⟨rfl, hR, hF⟩
            · skip
              rw [if_neg c_119] at hG
              refine lv_aload_n hx hb dX8_claim_122 rfl (lv_at hl 2 rfl) ?_
              refine xget (C := RX8) (T := TX8) (N := 37) 20 hx hb hts hin8 hown I hR.1 rfl (by decide) (List.mem_of_getElem? (i := 5) rfl) rfl rfl dX8_claim_123 ?_
              refine lv_bipush (v := (nI 60)) hx hb dX8_claim_126 (by decide) ?_
              refine lv_icmp_ne (tgt := 135) hx hb dX8_claim_128 (by decide) (fun c_128 => ?_) (fun c_128 => ?_)
              · skip
                rw [if_neg c_128] at hG
                have d_128 : ¬ (mN σ 20) = 60 := fun q => c_128 ((nI_eq (by omega) (by omega)).mpr q)
                refine lv_iconst (v := (nI 0)) hx hb dX8_claim_135 (by decide) ?_
                refine xputM 0 hx hb hts hin8 hown I hS hR hF (by decide) (List.mem_of_getElem? (i := 6) rfl) rfl rfl rfl rfl rfl (hR.putTh _) dX8_claim_136 (fun H locs hw I hR hF hS => ?_)
                refine lv_aload_n hx hb dX8_claim_139 rfl (lv_at hl 2 rfl) ?_
                refine xget (C := RX8) (T := TX8) (N := 37) 0 hx hb hts hin8 hown I hR.1 rfl (by decide) (List.mem_of_getElem? (i := 6) rfl) rfl rfl dX8_claim_140 ?_
                refine lv_if_le (tgt := 148) hx hb dX8_claim_143 (by decide) (fun _ => ?_) (fun q => absurd (by decide) q)
                refine lv_aload_n hx hb dX8_claim_148 rfl (lv_at hl 2 rfl) ?_
                refine lv_dup hx hb dX8_claim_149 rfl ?_
                refine xget (C := RX8) (T := TX8) (N := 37) 30 hx hb hts hin8 hown I hR.1 rfl (by decide) (List.mem_of_getElem? (i := 1) rfl) rfl rfl dX8_claim_150 ?_
                refine lv_iload hx hb dX8_claim_153 (lv_at hl 7 rfl) ?_
                refine lv_iconst (v := (-1)) hx hb dX8_claim_155 (by decide) ?_
                refine lv_icmp_ne (tgt := 163) hx hb dX8_claim_156 (by decide) (fun q => absurd c_11 q) (fun _ => ?_)
                refine lv_iconst (v := (nI 1)) hx hb dX8_claim_159 (by decide) ?_
                refine lv_goto (tgt := 164) hx hb dX8_claim_160 (by decide) ?_
                refine lv_iadd hx hb dX8_claim_164 ?_
                refine xtop (y := .int (nI (mN σ 30 + 1))) (congrArg Value.int (nI_add _ _)) ?_
                refine xputM 30 hx hb hts hin8 hown I hS hR hF (by decide) (List.mem_of_getElem? (i := 1) rfl) rfl rfl rfl rfl rfl (hR.putN (by decide) (mN σ 30 + 1)) dX8_claim_165 (fun H locs hw I hR hF hS => ?_)
                refine lv_aload_n hx hb dX8_claim_168 rfl (lv_at hl 2 rfl) ?_
                refine lv_iload_n hx hb dX8_claim_169 rfl (lv_at hl 3 rfl) ?_
                refine xtop (y := .int (nI (tn a1))) (congrArg Value.int e_a1) ?_
                refine lv_iload_n hx hb dX8_claim_170 rfl (lv_at hl 4 rfl) ?_
                refine xtop (y := .int (nI (tn a2))) (congrArg Value.int e_a2) ?_
                refine lv_iload_n hx hb dX8_claim_171 rfl (lv_at hl 5 rfl) ?_
                refine xtop (y := .int (nI (tn a3))) (congrArg Value.int e_a3) ?_
                refine lv_iload hx hb dX8_claim_172 (lv_at hl 6 rfl) ?_
                refine xtop (y := .int (nI (tn a4))) (congrArg Value.int e_a4) ?_
                refine lv_iload hx hb dX8_claim_174 (lv_at hl 7 rfl) ?_
                refine lv_iconst (v := (-1)) hx hb dX8_claim_176 (by decide) ?_
                refine lv_icmp_ne (tgt := 189) hx hb dX8_claim_177 (by decide) (fun q => absurd c_11 q) (fun _ => ?_)
                refine lv_aload_n hx hb dX8_claim_180 rfl (lv_at hl 2 rfl) ?_
                refine xget (C := RX8) (T := TX8) (N := 37) 30 hx hb hts hin8 hown I hR.1 rfl (by decide) (List.mem_of_getElem? (i := 1) rfl) rfl rfl dX8_claim_181 ?_
                refine lv_iconst (v := (nI 1)) hx hb dX8_claim_184 (by decide) ?_
                refine lv_isub hx hb dX8_claim_185 ?_
                refine xtop (y := .int (nI (mN σ 30 + 1 - 1))) (congrArg Value.int (pk_sub (a := mN σ 30 + 1) (b := 1) (by omega))) ?_
                refine lv_goto (tgt := 191) hx hb dX8_claim_186 (by decide) ?_
                refine xcvQ (As := [.int (nI (tn a1)), .int (nI (tn a2)), .int (nI (tn a3)), .int (nI (tn a4)), .int (nI (mN σ 30 + 1 - 1))]) (rest := []) ⟨hx, hb, hml, hown, hts⟩ (mX8_adds l lo D E hw (mSK σ 30 0 (mN σ 30 + 1)) (nI 0) r ar hR (tn a1) (tn a2) (tn a3) (nI (tn a4)) (mN σ 30 + 1 - 1) (by first | assumption | omega | (simp [mSK_N, mSI_N, mSL_N]; omega)) (by first | assumption | omega | (simp [mSK_N, mSI_N, mSL_N]; omega))) (cwV 5 hts gX8_claim_X8_adds rfl rfl rfl (by decide +kernel) ⟨Nat.le_of_ble_eq_true rfl, Nat.le_of_ble_eq_true rfl⟩) I hS hR.1 rfl rfl hl.1 rfl (Nat.le_of_ble_eq_true rfl) dX8_claim_191 ⟨Nat.le_of_ble_eq_true rfl, Nat.le_of_ble_eq_true rfl⟩ (fun v9 hw H locs q9 I hS => ?_)
                obtain ⟨q1, hR, hF9⟩ := q9
                subst q1
                have hF := xF.tr hF hF9
                refine W.eq (g2 := F0 m 194 ls [.int (fX8_adds (mSK σ 30 0 (mN σ 30 + 1)) (nI 0) (tn a1) (tn a2) (tn a3) (nI (tn a4)) (mN σ 30 + 1 - 1)).1]) rfl ?_
                subst hG
                exact xriQ hx hb hr hlocks dX8_claim_194 I hS ⟨rfl, hR, hF⟩
              · skip
                rw [if_pos c_128] at hG
                have d_128 : (mN σ 20) = 60 := (nI_eq (by omega) (by omega)).mp c_128
                refine lv_iconst (v := (nI 3)) hx hb dX8_claim_131 (by decide) ?_
                refine lv_goto (tgt := 136) hx hb dX8_claim_132 (by decide) ?_
                refine xputM 0 hx hb hts hin8 hown I hS hR hF (by decide) (List.mem_of_getElem? (i := 6) rfl) rfl rfl rfl rfl rfl (hR.putTh _) dX8_claim_136 (fun H locs hw I hR hF hS => ?_)
                refine lv_aload_n hx hb dX8_claim_139 rfl (lv_at hl 2 rfl) ?_
                refine xget (C := RX8) (T := TX8) (N := 37) 0 hx hb hts hin8 hown I hR.1 rfl (by decide) (List.mem_of_getElem? (i := 6) rfl) rfl rfl dX8_claim_140 ?_
                refine lv_if_le (tgt := 148) hx hb dX8_claim_143 (by decide) (fun q => absurd q (by decide)) (fun _ => ?_)
                refine lv_iconst (v := (nI 0)) hx hb dX8_claim_146 (by decide) ?_
                subst hG
                exact xriQ hx hb hr hlocks dX8_claim_147 I hS ⟨rfl, hR, hF⟩
    · skip
      rw [if_neg c_11] at hG
      refine lv_iload hx hb dX8_claim_14 (lv_at hl 5 rfl) ?_
      refine lv_iconst (v := (nI 0)) hx hb dX8_claim_16 (by decide) ?_
      refine lv_aload_n hx hb dX8_claim_17 rfl (lv_at hl 0 rfl) ?_
      refine xget (C := RX8) (T := TX8) (N := 37) 30 hx hb hts hin8 hown I hR.1 rfl (by decide) (List.mem_of_getElem? (i := 1) rfl) rfl rfl dX8_claim_18 ?_
      refine lv_iconst (v := (nI 1)) hx hb dX8_claim_21 (by decide) ?_
      refine lv_isub hx hb dX8_claim_22 ?_
      refine xcsR (As := [.int a5, .int (nI 0), .int ((nI (mN σ 30)) - (nI 1))]) (rest := []) (v := some (.int (fX8_isIn a5 (nI 0) ((nI (mN σ 30)) - (nI 1))))) ⟨hx, hb, hml, hown, hts⟩ (mX8_isIn l lo D E h  a5 (nI 0) ((nI (mN σ 30)) - (nI 1))  ) (va_cwS 3 hts gX8_claim_X8_isIn rfl rfl rfl (by decide +kernel) ⟨Nat.le_of_ble_eq_true rfl, Nat.le_of_ble_eq_true rfl⟩) I rfl hl.1 rfl (Nat.le_of_ble_eq_true rfl) dX8_claim_23 ⟨Nat.le_of_ble_eq_true rfl, Nat.le_of_ble_eq_true rfl⟩ ?_
      refine W.eq (g2 := F0 m 26 ls [.int (fX8_isIn a5 (nI 0) ((nI (mN σ 30)) - (nI 1)))]) rfl ?_
      refine lv_if_eq (tgt := 33) hx hb dX8_claim_26 (by decide) (fun c_26 => ?_) (fun c_26 => ?_)
      · skip
        rw [if_pos c_26] at hG
        refine lv_iconst (v := (nI 0)) hx hb dX8_claim_33 (by decide) ?_
        refine lv_istore (lv' := [(6, .int (nI 0)), (0, .ref r), (1, .int a1), (2, .int a2), (3, .int a3), (4, .int a4), (5, .int a5)]) hx hb dX8_claim_34 hl (by decide) rfl (fun ls hl => ?_)
        refine lv_iload hx hb dX8_claim_36 (lv_at hl 0 rfl) ?_
        refine lv_if_eq (tgt := 89) hx hb dX8_claim_38 (by decide) (fun _ => ?_) (fun q => absurd (by decide) q)
        refine lv_iconst (v := (nI 0)) hx hb dX8_claim_89 (by decide) ?_
        refine lv_istore (lv' := [(7, .int (nI 0)), (6, .int (nI 0)), (0, .ref r), (1, .int a1), (2, .int a2), (3, .int a3), (4, .int a4), (5, .int a5)]) hx hb dX8_claim_90 hl (by decide) rfl (fun ls hl => ?_)
        refine lv_aload_n hx hb dX8_claim_92 rfl (lv_at hl 2 rfl) ?_
        refine lv_iload hx hb dX8_claim_93 (lv_at hl 1 rfl) ?_
        refine lv_if_ne (tgt := 102) hx hb dX8_claim_95 (by decide) (fun q => absurd (by decide) q) (fun _ => ?_)
        refine lv_iconst (v := (nI 1)) hx hb dX8_claim_98 (by decide) ?_
        refine lv_goto (tgt := 136) hx hb dX8_claim_99 (by decide) ?_
        refine xputM 0 hx hb hts hin8 hown I hS hR hF (by decide) (List.mem_of_getElem? (i := 6) rfl) rfl rfl rfl rfl rfl (hR.putTh _) dX8_claim_136 (fun H locs hw I hR hF hS => ?_)
        refine lv_aload_n hx hb dX8_claim_139 rfl (lv_at hl 2 rfl) ?_
        refine xget (C := RX8) (T := TX8) (N := 37) 0 hx hb hts hin8 hown I hR.1 rfl (by decide) (List.mem_of_getElem? (i := 6) rfl) rfl rfl dX8_claim_140 ?_
        refine lv_if_le (tgt := 148) hx hb dX8_claim_143 (by decide) (fun q => absurd q (by decide)) (fun _ => ?_)
        refine lv_iconst (v := (nI 0)) hx hb dX8_claim_146 (by decide) ?_
        subst hG
        exact xriQ hx hb hr hlocks dX8_claim_147 I hS ⟨rfl, hR, hF⟩
      · skip
        rw [if_neg c_26] at hG
        obtain ⟨e_a5, l_a5⟩ := ok_isInP (by omega) c_26
        refine lv_iconst (v := (nI 1)) hx hb dX8_claim_29 (by decide) ?_
        refine lv_goto (tgt := 34) hx hb dX8_claim_30 (by decide) ?_
        refine lv_istore (lv' := [(6, .int (nI 1)), (0, .ref r), (1, .int a1), (2, .int a2), (3, .int a3), (4, .int a4), (5, .int a5)]) hx hb dX8_claim_34 hl (by decide) rfl (fun ls hl => ?_)
        refine lv_iload hx hb dX8_claim_36 (lv_at hl 0 rfl) ?_
        refine lv_if_eq (tgt := 89) hx hb dX8_claim_38 (by decide) (fun q => absurd q (by decide)) (fun _ => ?_)
        refine lv_iload_n hx hb dX8_claim_41 rfl (lv_at hl 3 rfl) ?_
        refine xcsR (As := [.int a2]) (rest := []) (v := some (.int (fX8_isKind a2))) ⟨hx, hb, hml, hown, hts⟩ (mX8_isKind l lo D E h  a2  ) (va_cwS 1 hts gX8_claim_X8_isKind rfl rfl rfl (by decide +kernel) ⟨Nat.le_of_ble_eq_true rfl, Nat.le_of_ble_eq_true rfl⟩) I rfl hl.1 rfl (Nat.le_of_ble_eq_true rfl) dX8_claim_42 ⟨Nat.le_of_ble_eq_true rfl, Nat.le_of_ble_eq_true rfl⟩ ?_
        refine W.eq (g2 := F0 m 45 ls [.int (fX8_isKind a2)]) rfl ?_
        refine lv_if_eq (tgt := 89) hx hb dX8_claim_45 (by decide) (fun c_45 => ?_) (fun c_45 => ?_)
        · skip
          rw [if_pos c_45] at hG
          refine lv_iconst (v := (nI 0)) hx hb dX8_claim_89 (by decide) ?_
          refine lv_istore (lv' := [(7, .int (nI 0)), (6, .int (nI 1)), (0, .ref r), (1, .int a1), (2, .int a2), (3, .int a3), (4, .int a4), (5, .int a5)]) hx hb dX8_claim_90 hl (by decide) rfl (fun ls hl => ?_)
          refine lv_aload_n hx hb dX8_claim_92 rfl (lv_at hl 2 rfl) ?_
          refine lv_iload hx hb dX8_claim_93 (lv_at hl 1 rfl) ?_
          refine lv_if_ne (tgt := 102) hx hb dX8_claim_95 (by decide) (fun _ => ?_) (fun q => absurd q (by decide))
          refine lv_iload hx hb dX8_claim_102 (lv_at hl 0 rfl) ?_
          refine lv_if_ne (tgt := 111) hx hb dX8_claim_104 (by decide) (fun q => absurd (by decide) q) (fun _ => ?_)
          refine lv_iconst (v := (nI 2)) hx hb dX8_claim_107 (by decide) ?_
          refine lv_goto (tgt := 136) hx hb dX8_claim_108 (by decide) ?_
          refine xputM 0 hx hb hts hin8 hown I hS hR hF (by decide) (List.mem_of_getElem? (i := 6) rfl) rfl rfl rfl rfl rfl (hR.putTh _) dX8_claim_136 (fun H locs hw I hR hF hS => ?_)
          refine lv_aload_n hx hb dX8_claim_139 rfl (lv_at hl 2 rfl) ?_
          refine xget (C := RX8) (T := TX8) (N := 37) 0 hx hb hts hin8 hown I hR.1 rfl (by decide) (List.mem_of_getElem? (i := 6) rfl) rfl rfl dX8_claim_140 ?_
          refine lv_if_le (tgt := 148) hx hb dX8_claim_143 (by decide) (fun q => absurd q (by decide)) (fun _ => ?_)
          refine lv_iconst (v := (nI 0)) hx hb dX8_claim_146 (by decide) ?_
          subst hG
          exact xriQ hx hb hr hlocks dX8_claim_147 I hS ⟨rfl, hR, hF⟩
        · skip
          rw [if_neg c_45] at hG
          obtain ⟨e_a2, l_a2⟩ := ok_isKind c_45
          refine lv_iload_n hx hb dX8_claim_48 rfl (lv_at hl 4 rfl) ?_
          refine lv_iconst (v := (nI 0)) hx hb dX8_claim_49 (by decide) ?_
          refine lv_aload_n hx hb dX8_claim_50 rfl (lv_at hl 1 rfl) ?_
          refine xget (C := RX8) (T := TX8) (N := 37) 1 hx hb hts hin8 hown I hR.1 rfl (by decide) (List.mem_of_getElem? (i := 2) rfl) rfl rfl dX8_claim_51 ?_
          refine xcsR (As := [.int a3, .int (nI 0), .int (nI (mN σ 1))]) (rest := []) (v := some (.int (fX8_isIn a3 (nI 0) (nI (mN σ 1))))) ⟨hx, hb, hml, hown, hts⟩ (mX8_isIn l lo D E h  a3 (nI 0) (nI (mN σ 1))  ) (va_cwS 3 hts gX8_claim_X8_isIn rfl rfl rfl (by decide +kernel) ⟨Nat.le_of_ble_eq_true rfl, Nat.le_of_ble_eq_true rfl⟩) I rfl hl.1 rfl (Nat.le_of_ble_eq_true rfl) dX8_claim_54 ⟨Nat.le_of_ble_eq_true rfl, Nat.le_of_ble_eq_true rfl⟩ ?_
          refine W.eq (g2 := F0 m 57 ls [.int (fX8_isIn a3 (nI 0) (nI (mN σ 1)))]) rfl ?_
          refine lv_if_eq (tgt := 89) hx hb dX8_claim_57 (by decide) (fun c_57 => ?_) (fun c_57 => ?_)
          · skip
            rw [if_pos c_57] at hG
            refine lv_iconst (v := (nI 0)) hx hb dX8_claim_89 (by decide) ?_
            refine lv_istore (lv' := [(7, .int (nI 0)), (6, .int (nI 1)), (0, .ref r), (1, .int a1), (2, .int a2), (3, .int a3), (4, .int a4), (5, .int a5)]) hx hb dX8_claim_90 hl (by decide) rfl (fun ls hl => ?_)
            refine lv_aload_n hx hb dX8_claim_92 rfl (lv_at hl 2 rfl) ?_
            refine lv_iload hx hb dX8_claim_93 (lv_at hl 1 rfl) ?_
            refine lv_if_ne (tgt := 102) hx hb dX8_claim_95 (by decide) (fun _ => ?_) (fun q => absurd q (by decide))
            refine lv_iload hx hb dX8_claim_102 (lv_at hl 0 rfl) ?_
            refine lv_if_ne (tgt := 111) hx hb dX8_claim_104 (by decide) (fun q => absurd (by decide) q) (fun _ => ?_)
            refine lv_iconst (v := (nI 2)) hx hb dX8_claim_107 (by decide) ?_
            refine lv_goto (tgt := 136) hx hb dX8_claim_108 (by decide) ?_
            refine xputM 0 hx hb hts hin8 hown I hS hR hF (by decide) (List.mem_of_getElem? (i := 6) rfl) rfl rfl rfl rfl rfl (hR.putTh _) dX8_claim_136 (fun H locs hw I hR hF hS => ?_)
            refine lv_aload_n hx hb dX8_claim_139 rfl (lv_at hl 2 rfl) ?_
            refine xget (C := RX8) (T := TX8) (N := 37) 0 hx hb hts hin8 hown I hR.1 rfl (by decide) (List.mem_of_getElem? (i := 6) rfl) rfl rfl dX8_claim_140 ?_
            refine lv_if_le (tgt := 148) hx hb dX8_claim_143 (by decide) (fun q => absurd q (by decide)) (fun _ => ?_)
            refine lv_iconst (v := (nI 0)) hx hb dX8_claim_146 (by decide) ?_
            subst hG
            exact xriQ hx hb hr hlocks dX8_claim_147 I hS ⟨rfl, hR, hF⟩
          · skip
            rw [if_neg c_57] at hG
            obtain ⟨e_a3, l_a3⟩ := ok_isIn (by omega) c_57
            refine lv_iload hx hb dX8_claim_60 (lv_at hl 5 rfl) ?_
            refine xcsR (As := [.int a4]) (rest := []) (v := some (.int (fX8_isLoss a4))) ⟨hx, hb, hml, hown, hts⟩ (mX8_isLoss l lo D E h  a4  ) (va_cwS 1 hts gX8_claim_X8_isLoss rfl rfl rfl (by decide +kernel) ⟨Nat.le_of_ble_eq_true rfl, Nat.le_of_ble_eq_true rfl⟩) I rfl hl.1 rfl (Nat.le_of_ble_eq_true rfl) dX8_claim_62 ⟨Nat.le_of_ble_eq_true rfl, Nat.le_of_ble_eq_true rfl⟩ ?_
            refine W.eq (g2 := F0 m 65 ls [.int (fX8_isLoss a4)]) rfl ?_
            refine lv_if_eq (tgt := 89) hx hb dX8_claim_65 (by decide) (fun c_65 => ?_) (fun c_65 => ?_)
            · skip
              rw [if_pos c_65] at hG
              refine lv_iconst (v := (nI 0)) hx hb dX8_claim_89 (by decide) ?_
              refine lv_istore (lv' := [(7, .int (nI 0)), (6, .int (nI 1)), (0, .ref r), (1, .int a1), (2, .int a2), (3, .int a3), (4, .int a4), (5, .int a5)]) hx hb dX8_claim_90 hl (by decide) rfl (fun ls hl => ?_)
              refine lv_aload_n hx hb dX8_claim_92 rfl (lv_at hl 2 rfl) ?_
              refine lv_iload hx hb dX8_claim_93 (lv_at hl 1 rfl) ?_
              refine lv_if_ne (tgt := 102) hx hb dX8_claim_95 (by decide) (fun _ => ?_) (fun q => absurd q (by decide))
              refine lv_iload hx hb dX8_claim_102 (lv_at hl 0 rfl) ?_
              refine lv_if_ne (tgt := 111) hx hb dX8_claim_104 (by decide) (fun q => absurd (by decide) q) (fun _ => ?_)
              refine lv_iconst (v := (nI 2)) hx hb dX8_claim_107 (by decide) ?_
              refine lv_goto (tgt := 136) hx hb dX8_claim_108 (by decide) ?_
              refine xputM 0 hx hb hts hin8 hown I hS hR hF (by decide) (List.mem_of_getElem? (i := 6) rfl) rfl rfl rfl rfl rfl (hR.putTh _) dX8_claim_136 (fun H locs hw I hR hF hS => ?_)
              refine lv_aload_n hx hb dX8_claim_139 rfl (lv_at hl 2 rfl) ?_
              refine xget (C := RX8) (T := TX8) (N := 37) 0 hx hb hts hin8 hown I hR.1 rfl (by decide) (List.mem_of_getElem? (i := 6) rfl) rfl rfl dX8_claim_140 ?_
              refine lv_if_le (tgt := 148) hx hb dX8_claim_143 (by decide) (fun q => absurd q (by decide)) (fun _ => ?_)
              refine lv_iconst (v := (nI 0)) hx hb dX8_claim_146 (by decide) ?_
              subst hG
              exact xriQ hx hb hr hlocks dX8_claim_147 I hS ⟨rfl, hR, hF⟩
            · skip
              rw [if_neg c_65] at hG
              obtain ⟨e_a4, l_a4⟩ := ok_isLoss c_65
              refine lv_iload hx hb dX8_claim_68 (lv_at hl 6 rfl) ?_
              refine xtop (y := .int (nI (tn a5))) (congrArg Value.int e_a5) ?_
              refine lv_iconst (v := (-1)) hx hb dX8_claim_70 (by decide) ?_
              refine lv_icmp_eq (tgt := 85) hx hb dX8_claim_71 (by decide) (fun c_71 => ?_) (fun c_71 => ?_)
              · skip
                rw [if_pos c_71] at hG
                refine lv_iconst (v := (nI 1)) hx hb dX8_claim_85 (by decide) ?_
                refine lv_goto (tgt := 90) hx hb dX8_claim_86 (by decide) ?_
                refine lv_istore (lv' := [(7, .int (nI 1)), (6, .int (nI 1)), (0, .ref r), (1, .int a1), (2, .int a2), (3, .int a3), (4, .int a4), (5, .int a5)]) hx hb dX8_claim_90 hl (by decide) rfl (fun ls hl => ?_)
                refine lv_aload_n hx hb dX8_claim_92 rfl (lv_at hl 2 rfl) ?_
                refine lv_iload hx hb dX8_claim_93 (lv_at hl 1 rfl) ?_
                refine lv_if_ne (tgt := 102) hx hb dX8_claim_95 (by decide) (fun _ => ?_) (fun q => absurd q (by decide))
                refine lv_iload hx hb dX8_claim_102 (lv_at hl 0 rfl) ?_
                refine lv_if_ne (tgt := 111) hx hb dX8_claim_104 (by decide) (fun _ => ?_) (fun q => absurd q (by decide))
                refine lv_iload_n hx hb dX8_claim_111 rfl (lv_at hl 5 rfl) ?_
                refine xtop (y := .int (nI (tn a3))) (congrArg Value.int e_a3) ?_
                refine lv_bipush (v := (nI 100)) hx hb dX8_claim_112 (by decide) ?_
                refine lv_idiv hx hb dX8_claim_114 (by decide) ?_
                refine xtop (y := .int (nI ((tn a3) / 100))) (congrArg Value.int (pk_div (by omega) (by decide) (by decide))) ?_
                refine lv_aload_n hx hb dX8_claim_115 rfl (lv_at hl 2 rfl) ?_
                refine xget (C := RX8) (T := TX8) (N := 37) 34 hx hb hts hin8 hown I hR.1 rfl (by decide) (List.mem_of_getElem? (i := 4) rfl) rfl rfl dX8_claim_116 ?_
                refine lv_icmp_lt (tgt := 131) hx hb dX8_claim_119 (by decide) (fun c_119 => ?_) (fun c_119 => ?_)
                · skip
                  rw [if_pos c_119] at hG
                  refine lv_iconst (v := (nI 3)) hx hb dX8_claim_131 (by decide) ?_
                  refine lv_goto (tgt := 136) hx hb dX8_claim_132 (by decide) ?_
                  refine xputM 0 hx hb hts hin8 hown I hS hR hF (by decide) (List.mem_of_getElem? (i := 6) rfl) rfl rfl rfl rfl rfl (hR.putTh _) dX8_claim_136 (fun H locs hw I hR hF hS => ?_)
                  refine lv_aload_n hx hb dX8_claim_139 rfl (lv_at hl 2 rfl) ?_
                  refine xget (C := RX8) (T := TX8) (N := 37) 0 hx hb hts hin8 hown I hR.1 rfl (by decide) (List.mem_of_getElem? (i := 6) rfl) rfl rfl dX8_claim_140 ?_
                  refine lv_if_le (tgt := 148) hx hb dX8_claim_143 (by decide) (fun q => absurd q (by decide)) (fun _ => ?_)
                  refine lv_iconst (v := (nI 0)) hx hb dX8_claim_146 (by decide) ?_
                  subst hG
                  exact xriQ hx hb hr hlocks dX8_claim_147 I hS ⟨rfl, hR, hF⟩
                · skip
                  rw [if_neg c_119] at hG
                  refine lv_aload_n hx hb dX8_claim_122 rfl (lv_at hl 2 rfl) ?_
                  refine xget (C := RX8) (T := TX8) (N := 37) 20 hx hb hts hin8 hown I hR.1 rfl (by decide) (List.mem_of_getElem? (i := 5) rfl) rfl rfl dX8_claim_123 ?_
                  refine lv_bipush (v := (nI 60)) hx hb dX8_claim_126 (by decide) ?_
                  refine lv_icmp_ne (tgt := 135) hx hb dX8_claim_128 (by decide) (fun c_128 => ?_) (fun c_128 => ?_)
                  · skip
                    rw [if_neg c_128] at hG
                    have d_128 : ¬ (mN σ 20) = 60 := fun q => c_128 ((nI_eq (by omega) (by omega)).mpr q)
                    refine lv_iconst (v := (nI 0)) hx hb dX8_claim_135 (by decide) ?_
                    refine xputM 0 hx hb hts hin8 hown I hS hR hF (by decide) (List.mem_of_getElem? (i := 6) rfl) rfl rfl rfl rfl rfl (hR.putTh _) dX8_claim_136 (fun H locs hw I hR hF hS => ?_)
                    refine lv_aload_n hx hb dX8_claim_139 rfl (lv_at hl 2 rfl) ?_
                    refine xget (C := RX8) (T := TX8) (N := 37) 0 hx hb hts hin8 hown I hR.1 rfl (by decide) (List.mem_of_getElem? (i := 6) rfl) rfl rfl dX8_claim_140 ?_
                    refine lv_if_le (tgt := 148) hx hb dX8_claim_143 (by decide) (fun _ => ?_) (fun q => absurd (by decide) q)
                    refine lv_aload_n hx hb dX8_claim_148 rfl (lv_at hl 2 rfl) ?_
                    refine lv_dup hx hb dX8_claim_149 rfl ?_
                    refine xget (C := RX8) (T := TX8) (N := 37) 30 hx hb hts hin8 hown I hR.1 rfl (by decide) (List.mem_of_getElem? (i := 1) rfl) rfl rfl dX8_claim_150 ?_
                    refine lv_iload hx hb dX8_claim_153 (lv_at hl 7 rfl) ?_
                    refine xtop (y := .int (nI (tn a5))) (congrArg Value.int e_a5) ?_
                    refine lv_iconst (v := (-1)) hx hb dX8_claim_155 (by decide) ?_
                    refine lv_icmp_ne (tgt := 163) hx hb dX8_claim_156 (by decide) (fun q => absurd c_71 q) (fun _ => ?_)
                    refine lv_iconst (v := (nI 1)) hx hb dX8_claim_159 (by decide) ?_
                    refine lv_goto (tgt := 164) hx hb dX8_claim_160 (by decide) ?_
                    refine lv_iadd hx hb dX8_claim_164 ?_
                    refine xtop (y := .int (nI (mN σ 30 + 1))) (congrArg Value.int (nI_add _ _)) ?_
                    refine xputM 30 hx hb hts hin8 hown I hS hR hF (by decide) (List.mem_of_getElem? (i := 1) rfl) rfl rfl rfl rfl rfl (hR.putN (by decide) (mN σ 30 + 1)) dX8_claim_165 (fun H locs hw I hR hF hS => ?_)
                    refine lv_aload_n hx hb dX8_claim_168 rfl (lv_at hl 2 rfl) ?_
                    refine lv_iload_n hx hb dX8_claim_169 rfl (lv_at hl 3 rfl) ?_
                    refine xtop (y := .int (nI (tn a1))) (congrArg Value.int e_a1) ?_
                    refine lv_iload_n hx hb dX8_claim_170 rfl (lv_at hl 4 rfl) ?_
                    refine xtop (y := .int (nI (tn a2))) (congrArg Value.int e_a2) ?_
                    refine lv_iload_n hx hb dX8_claim_171 rfl (lv_at hl 5 rfl) ?_
                    refine xtop (y := .int (nI (tn a3))) (congrArg Value.int e_a3) ?_
                    refine lv_iload hx hb dX8_claim_172 (lv_at hl 6 rfl) ?_
                    refine xtop (y := .int (nI (tn a4))) (congrArg Value.int e_a4) ?_
                    refine lv_iload hx hb dX8_claim_174 (lv_at hl 7 rfl) ?_
                    refine xtop (y := .int (nI (tn a5))) (congrArg Value.int e_a5) ?_
                    refine lv_iconst (v := (-1)) hx hb dX8_claim_176 (by decide) ?_
                    refine lv_icmp_ne (tgt := 189) hx hb dX8_claim_177 (by decide) (fun q => absurd c_71 q) (fun _ => ?_)
                    refine lv_aload_n hx hb dX8_claim_180 rfl (lv_at hl 2 rfl) ?_
                    refine xget (C := RX8) (T := TX8) (N := 37) 30 hx hb hts hin8 hown I hR.1 rfl (by decide) (List.mem_of_getElem? (i := 1) rfl) rfl rfl dX8_claim_181 ?_
                    refine lv_iconst (v := (nI 1)) hx hb dX8_claim_184 (by decide) ?_
                    refine lv_isub hx hb dX8_claim_185 ?_
                    refine xtop (y := .int (nI (mN σ 30 + 1 - 1))) (congrArg Value.int (pk_sub (a := mN σ 30 + 1) (b := 1) (by omega))) ?_
                    refine lv_goto (tgt := 191) hx hb dX8_claim_186 (by decide) ?_
                    refine xcvQ (As := [.int (nI (tn a1)), .int (nI (tn a2)), .int (nI (tn a3)), .int (nI (tn a4)), .int (nI (mN σ 30 + 1 - 1))]) (rest := []) ⟨hx, hb, hml, hown, hts⟩ (mX8_adds l lo D E hw (mSK σ 30 0 (mN σ 30 + 1)) (nI 0) r ar hR (tn a1) (tn a2) (tn a3) (nI (tn a4)) (mN σ 30 + 1 - 1) (by first | assumption | omega | (simp [mSK_N, mSI_N, mSL_N]; omega)) (by first | assumption | omega | (simp [mSK_N, mSI_N, mSL_N]; omega))) (cwV 5 hts gX8_claim_X8_adds rfl rfl rfl (by decide +kernel) ⟨Nat.le_of_ble_eq_true rfl, Nat.le_of_ble_eq_true rfl⟩) I hS hR.1 rfl rfl hl.1 rfl (Nat.le_of_ble_eq_true rfl) dX8_claim_191 ⟨Nat.le_of_ble_eq_true rfl, Nat.le_of_ble_eq_true rfl⟩ (fun v9 hw H locs q9 I hS => ?_)
                    obtain ⟨q1, hR, hF9⟩ := q9
                    subst q1
                    have hF := xF.tr hF hF9
                    refine W.eq (g2 := F0 m 194 ls [.int (fX8_adds (mSK σ 30 0 (mN σ 30 + 1)) (nI 0) (tn a1) (tn a2) (tn a3) (nI (tn a4)) (mN σ 30 + 1 - 1)).1]) rfl ?_
                    subst hG
                    exact xriQ hx hb hr hlocks dX8_claim_194 I hS ⟨rfl, hR, hF⟩
                  · skip
                    rw [if_pos c_128] at hG
                    have d_128 : (mN σ 20) = 60 := (nI_eq (by omega) (by omega)).mp c_128
                    refine lv_iconst (v := (nI 3)) hx hb dX8_claim_131 (by decide) ?_
                    refine lv_goto (tgt := 136) hx hb dX8_claim_132 (by decide) ?_
                    refine xputM 0 hx hb hts hin8 hown I hS hR hF (by decide) (List.mem_of_getElem? (i := 6) rfl) rfl rfl rfl rfl rfl (hR.putTh _) dX8_claim_136 (fun H locs hw I hR hF hS => ?_)
                    refine lv_aload_n hx hb dX8_claim_139 rfl (lv_at hl 2 rfl) ?_
                    refine xget (C := RX8) (T := TX8) (N := 37) 0 hx hb hts hin8 hown I hR.1 rfl (by decide) (List.mem_of_getElem? (i := 6) rfl) rfl rfl dX8_claim_140 ?_
                    refine lv_if_le (tgt := 148) hx hb dX8_claim_143 (by decide) (fun q => absurd q (by decide)) (fun _ => ?_)
                    refine lv_iconst (v := (nI 0)) hx hb dX8_claim_146 (by decide) ?_
                    subst hG
                    exact xriQ hx hb hr hlocks dX8_claim_147 I hS ⟨rfl, hR, hF⟩
              · skip
                rw [if_neg c_71] at hG
                refine lv_aload_n hx hb dX8_claim_74 rfl (lv_at hl 1 rfl) ?_
                refine xget (C := RX8) (T := TX8) (N := 37) 31 hx hb hts hin8 hown I hR.1 rfl (by decide) (List.mem_of_getElem? (i := 3) rfl) rfl rfl dX8_claim_75 ?_
                refine lv_iload hx hb dX8_claim_78 (lv_at hl 6 rfl) ?_
                refine xtop (y := .int (nI (tn a5))) (congrArg Value.int e_a5) ?_
                refine xiald (i := (tn a5)) (n := 60) hx hb I (hR.2.2.1 31 60 (by decide)) (by omega) (by decide) dX8_claim_80 ?_
                have b80 := w31 (tn a5) (by omega)
                refine lv_iload_n hx hb dX8_claim_81 rfl (lv_at hl 4 rfl) ?_
                refine xtop (y := .int (nI (tn a3))) (congrArg Value.int e_a3) ?_
                refine lv_icmp_ne (tgt := 89) hx hb dX8_claim_82 (by decide) (fun c_82 => ?_) (fun c_82 => ?_)
                · skip
                  rw [if_neg c_82] at hG
                  refine lv_iconst (v := (nI 0)) hx hb dX8_claim_89 (by decide) ?_
                  refine lv_istore (lv' := [(7, .int (nI 0)), (6, .int (nI 1)), (0, .ref r), (1, .int a1), (2, .int a2), (3, .int a3), (4, .int a4), (5, .int a5)]) hx hb dX8_claim_90 hl (by decide) rfl (fun ls hl => ?_)
                  refine lv_aload_n hx hb dX8_claim_92 rfl (lv_at hl 2 rfl) ?_
                  refine lv_iload hx hb dX8_claim_93 (lv_at hl 1 rfl) ?_
                  refine lv_if_ne (tgt := 102) hx hb dX8_claim_95 (by decide) (fun _ => ?_) (fun q => absurd q (by decide))
                  refine lv_iload hx hb dX8_claim_102 (lv_at hl 0 rfl) ?_
                  refine lv_if_ne (tgt := 111) hx hb dX8_claim_104 (by decide) (fun q => absurd (by decide) q) (fun _ => ?_)
                  refine lv_iconst (v := (nI 2)) hx hb dX8_claim_107 (by decide) ?_
                  refine lv_goto (tgt := 136) hx hb dX8_claim_108 (by decide) ?_
                  refine xputM 0 hx hb hts hin8 hown I hS hR hF (by decide) (List.mem_of_getElem? (i := 6) rfl) rfl rfl rfl rfl rfl (hR.putTh _) dX8_claim_136 (fun H locs hw I hR hF hS => ?_)
                  refine lv_aload_n hx hb dX8_claim_139 rfl (lv_at hl 2 rfl) ?_
                  refine xget (C := RX8) (T := TX8) (N := 37) 0 hx hb hts hin8 hown I hR.1 rfl (by decide) (List.mem_of_getElem? (i := 6) rfl) rfl rfl dX8_claim_140 ?_
                  refine lv_if_le (tgt := 148) hx hb dX8_claim_143 (by decide) (fun q => absurd q (by decide)) (fun _ => ?_)
                  refine lv_iconst (v := (nI 0)) hx hb dX8_claim_146 (by decide) ?_
                  subst hG
                  exact xriQ hx hb hr hlocks dX8_claim_147 I hS ⟨rfl, hR, hF⟩
                · skip
                  rw [if_pos c_82] at hG
                  refine lv_iconst (v := (nI 1)) hx hb dX8_claim_85 (by decide) ?_
                  refine lv_goto (tgt := 90) hx hb dX8_claim_86 (by decide) ?_
                  refine lv_istore (lv' := [(7, .int (nI 1)), (6, .int (nI 1)), (0, .ref r), (1, .int a1), (2, .int a2), (3, .int a3), (4, .int a4), (5, .int a5)]) hx hb dX8_claim_90 hl (by decide) rfl (fun ls hl => ?_)
                  refine lv_aload_n hx hb dX8_claim_92 rfl (lv_at hl 2 rfl) ?_
                  refine lv_iload hx hb dX8_claim_93 (lv_at hl 1 rfl) ?_
                  refine lv_if_ne (tgt := 102) hx hb dX8_claim_95 (by decide) (fun _ => ?_) (fun q => absurd q (by decide))
                  refine lv_iload hx hb dX8_claim_102 (lv_at hl 0 rfl) ?_
                  refine lv_if_ne (tgt := 111) hx hb dX8_claim_104 (by decide) (fun _ => ?_) (fun q => absurd q (by decide))
                  refine lv_iload_n hx hb dX8_claim_111 rfl (lv_at hl 5 rfl) ?_
                  refine xtop (y := .int (nI (tn a3))) (congrArg Value.int e_a3) ?_
                  refine lv_bipush (v := (nI 100)) hx hb dX8_claim_112 (by decide) ?_
                  refine lv_idiv hx hb dX8_claim_114 (by decide) ?_
                  refine xtop (y := .int (nI ((tn a3) / 100))) (congrArg Value.int (pk_div (by omega) (by decide) (by decide))) ?_
                  refine lv_aload_n hx hb dX8_claim_115 rfl (lv_at hl 2 rfl) ?_
                  refine xget (C := RX8) (T := TX8) (N := 37) 34 hx hb hts hin8 hown I hR.1 rfl (by decide) (List.mem_of_getElem? (i := 4) rfl) rfl rfl dX8_claim_116 ?_
                  refine lv_icmp_lt (tgt := 131) hx hb dX8_claim_119 (by decide) (fun c_119 => ?_) (fun c_119 => ?_)
                  · skip
                    rw [if_pos c_119] at hG
                    refine lv_iconst (v := (nI 3)) hx hb dX8_claim_131 (by decide) ?_
                    refine lv_goto (tgt := 136) hx hb dX8_claim_132 (by decide) ?_
                    refine xputM 0 hx hb hts hin8 hown I hS hR hF (by decide) (List.mem_of_getElem? (i := 6) rfl) rfl rfl rfl rfl rfl (hR.putTh _) dX8_claim_136 (fun H locs hw I hR hF hS => ?_)
                    refine lv_aload_n hx hb dX8_claim_139 rfl (lv_at hl 2 rfl) ?_
                    refine xget (C := RX8) (T := TX8) (N := 37) 0 hx hb hts hin8 hown I hR.1 rfl (by decide) (List.mem_of_getElem? (i := 6) rfl) rfl rfl dX8_claim_140 ?_
                    refine lv_if_le (tgt := 148) hx hb dX8_claim_143 (by decide) (fun q => absurd q (by decide)) (fun _ => ?_)
                    refine lv_iconst (v := (nI 0)) hx hb dX8_claim_146 (by decide) ?_
                    subst hG
                    exact xriQ hx hb hr hlocks dX8_claim_147 I hS ⟨rfl, hR, hF⟩
                  · skip
                    rw [if_neg c_119] at hG
                    refine lv_aload_n hx hb dX8_claim_122 rfl (lv_at hl 2 rfl) ?_
                    refine xget (C := RX8) (T := TX8) (N := 37) 20 hx hb hts hin8 hown I hR.1 rfl (by decide) (List.mem_of_getElem? (i := 5) rfl) rfl rfl dX8_claim_123 ?_
                    refine lv_bipush (v := (nI 60)) hx hb dX8_claim_126 (by decide) ?_
                    refine lv_icmp_ne (tgt := 135) hx hb dX8_claim_128 (by decide) (fun c_128 => ?_) (fun c_128 => ?_)
                    · skip
                      rw [if_neg c_128] at hG
                      have d_128 : ¬ (mN σ 20) = 60 := fun q => c_128 ((nI_eq (by omega) (by omega)).mpr q)
                      refine lv_iconst (v := (nI 0)) hx hb dX8_claim_135 (by decide) ?_
                      refine xputM 0 hx hb hts hin8 hown I hS hR hF (by decide) (List.mem_of_getElem? (i := 6) rfl) rfl rfl rfl rfl rfl (hR.putTh _) dX8_claim_136 (fun H locs hw I hR hF hS => ?_)
                      refine lv_aload_n hx hb dX8_claim_139 rfl (lv_at hl 2 rfl) ?_
                      refine xget (C := RX8) (T := TX8) (N := 37) 0 hx hb hts hin8 hown I hR.1 rfl (by decide) (List.mem_of_getElem? (i := 6) rfl) rfl rfl dX8_claim_140 ?_
                      refine lv_if_le (tgt := 148) hx hb dX8_claim_143 (by decide) (fun _ => ?_) (fun q => absurd (by decide) q)
                      refine lv_aload_n hx hb dX8_claim_148 rfl (lv_at hl 2 rfl) ?_
                      refine lv_dup hx hb dX8_claim_149 rfl ?_
                      refine xget (C := RX8) (T := TX8) (N := 37) 30 hx hb hts hin8 hown I hR.1 rfl (by decide) (List.mem_of_getElem? (i := 1) rfl) rfl rfl dX8_claim_150 ?_
                      refine lv_iload hx hb dX8_claim_153 (lv_at hl 7 rfl) ?_
                      refine xtop (y := .int (nI (tn a5))) (congrArg Value.int e_a5) ?_
                      refine lv_iconst (v := (-1)) hx hb dX8_claim_155 (by decide) ?_
                      refine lv_icmp_ne (tgt := 163) hx hb dX8_claim_156 (by decide) (fun _ => ?_) (fun q => absurd q c_71)
                      refine lv_iconst (v := (nI 0)) hx hb dX8_claim_163 (by decide) ?_
                      refine lv_iadd hx hb dX8_claim_164 ?_
                      refine xtop (y := .int (nI (mN σ 30 + 0))) (congrArg Value.int (nI_add _ _)) ?_
                      refine xputM 30 hx hb hts hin8 hown I hS hR hF (by decide) (List.mem_of_getElem? (i := 1) rfl) rfl rfl rfl rfl rfl (hR.putN (by decide) (mN σ 30 + 0)) dX8_claim_165 (fun H locs hw I hR hF hS => ?_)
                      refine lv_aload_n hx hb dX8_claim_168 rfl (lv_at hl 2 rfl) ?_
                      refine lv_iload_n hx hb dX8_claim_169 rfl (lv_at hl 3 rfl) ?_
                      refine xtop (y := .int (nI (tn a1))) (congrArg Value.int e_a1) ?_
                      refine lv_iload_n hx hb dX8_claim_170 rfl (lv_at hl 4 rfl) ?_
                      refine xtop (y := .int (nI (tn a2))) (congrArg Value.int e_a2) ?_
                      refine lv_iload_n hx hb dX8_claim_171 rfl (lv_at hl 5 rfl) ?_
                      refine xtop (y := .int (nI (tn a3))) (congrArg Value.int e_a3) ?_
                      refine lv_iload hx hb dX8_claim_172 (lv_at hl 6 rfl) ?_
                      refine xtop (y := .int (nI (tn a4))) (congrArg Value.int e_a4) ?_
                      refine lv_iload hx hb dX8_claim_174 (lv_at hl 7 rfl) ?_
                      refine xtop (y := .int (nI (tn a5))) (congrArg Value.int e_a5) ?_
                      refine lv_iconst (v := (-1)) hx hb dX8_claim_176 (by decide) ?_
                      refine lv_icmp_ne (tgt := 189) hx hb dX8_claim_177 (by decide) (fun _ => ?_) (fun q => absurd q c_71)
                      refine lv_iload hx hb dX8_claim_189 (lv_at hl 7 rfl) ?_
                      refine xtop (y := .int (nI (tn a5))) (congrArg Value.int e_a5) ?_
                      refine xcvQ (As := [.int (nI (tn a1)), .int (nI (tn a2)), .int (nI (tn a3)), .int (nI (tn a4)), .int (nI (tn a5))]) (rest := []) ⟨hx, hb, hml, hown, hts⟩ (mX8_adds l lo D E hw (mSK σ 30 0 (mN σ 30 + 0)) (nI 0) r ar hR (tn a1) (tn a2) (tn a3) (nI (tn a4)) (tn a5) (by first | assumption | omega | (simp [mSK_N, mSI_N, mSL_N]; omega)) (by first | assumption | omega | (simp [mSK_N, mSI_N, mSL_N]; omega))) (cwV 5 hts gX8_claim_X8_adds rfl rfl rfl (by decide +kernel) ⟨Nat.le_of_ble_eq_true rfl, Nat.le_of_ble_eq_true rfl⟩) I hS hR.1 rfl rfl hl.1 rfl (Nat.le_of_ble_eq_true rfl) dX8_claim_191 ⟨Nat.le_of_ble_eq_true rfl, Nat.le_of_ble_eq_true rfl⟩ (fun v9 hw H locs q9 I hS => ?_)
                      obtain ⟨q1, hR, hF9⟩ := q9
                      subst q1
                      have hF := xF.tr hF hF9
                      refine W.eq (g2 := F0 m 194 ls [.int (fX8_adds (mSK σ 30 0 (mN σ 30 + 0)) (nI 0) (tn a1) (tn a2) (tn a3) (nI (tn a4)) (tn a5)).1]) rfl ?_
                      subst hG
                      exact xriQ hx hb hr hlocks dX8_claim_194 I hS ⟨rfl, hR, hF⟩
                    · skip
                      rw [if_pos c_128] at hG
                      have d_128 : (mN σ 20) = 60 := (nI_eq (by omega) (by omega)).mp c_128
                      refine lv_iconst (v := (nI 3)) hx hb dX8_claim_131 (by decide) ?_
                      refine lv_goto (tgt := 136) hx hb dX8_claim_132 (by decide) ?_
                      refine xputM 0 hx hb hts hin8 hown I hS hR hF (by decide) (List.mem_of_getElem? (i := 6) rfl) rfl rfl rfl rfl rfl (hR.putTh _) dX8_claim_136 (fun H locs hw I hR hF hS => ?_)
                      refine lv_aload_n hx hb dX8_claim_139 rfl (lv_at hl 2 rfl) ?_
                      refine xget (C := RX8) (T := TX8) (N := 37) 0 hx hb hts hin8 hown I hR.1 rfl (by decide) (List.mem_of_getElem? (i := 6) rfl) rfl rfl dX8_claim_140 ?_
                      refine lv_if_le (tgt := 148) hx hb dX8_claim_143 (by decide) (fun q => absurd q (by decide)) (fun _ => ?_)
                      refine lv_iconst (v := (nI 0)) hx hb dX8_claim_146 (by decide) ?_
                      subst hG
                      exact xriQ hx hb hr hlocks dX8_claim_147 I hS ⟨rfl, hR, hF⟩

def fX8_collide (σ : MT) (th : Int32) (a1 : Int32) (a2 : Int32) (a3 : Int32) (a4 : Int32) (a5 : Int32) : Int32 × MT × Int32 := (if (fX8_isShip σ a1) = 0 then ((nI 0), σ, (nI 1)) else (if (fX8_isShip σ a2) = 0 then ((nI 0), σ, (nI 1)) else (if (nI (tn a1)) = (nI (tn a2)) then ((nI 0), σ, (nI 2)) else (if (fX8_isIn a3 (nI 0) (nI 100)) = 0 then ((nI 0), σ, (nI 2)) else (if (fX8_isLoss a4) = 0 then ((nI 0), σ, (nI 2)) else (if (fX8_isLoss a5) = 0 then ((nI 0), σ, (nI 2)) else (if (nI (mN σ 20)) ≤ (nI 58) then (((fX8_adds ((fX8_adds (mSK σ 30 0 (mN σ 30 + 1)) (nI 0) (tn a1) 2 (mN σ 1) ((((nI (tn a5)).toInt64 * (nI (tn a3)).toInt64) / (100 : Int64)).toInt32) (mN σ 30 + 1 - 1)).2.1) ((fX8_adds (mSK σ 30 0 (mN σ 30 + 1)) (nI 0) (tn a1) 2 (mN σ 1) ((((nI (tn a5)).toInt64 * (nI (tn a3)).toInt64) / (100 : Int64)).toInt32) (mN σ 30 + 1 - 1)).2.2) (tn a2) 2 (mN (fX8_adds (mSK σ 30 0 (mN σ 30 + 1)) (nI 0) (tn a1) 2 (mN σ 1) ((((nI (tn a5)).toInt64 * (nI (tn a3)).toInt64) / (100 : Int64)).toInt32) (mN σ 30 + 1 - 1)).2.1 1) ((((nI (tn a4)).toInt64 * (nI (100 - (tn a3))).toInt64) / (100 : Int64)).toInt32) (mN (fX8_adds (mSK σ 30 0 (mN σ 30 + 1)) (nI 0) (tn a1) 2 (mN σ 1) ((((nI (tn a5)).toInt64 * (nI (tn a3)).toInt64) / (100 : Int64)).toInt32) (mN σ 30 + 1 - 1)).2.1 30 - 1)).1 - (nI 1)), (fX8_adds ((fX8_adds (mSK σ 30 0 (mN σ 30 + 1)) (nI 0) (tn a1) 2 (mN σ 1) ((((nI (tn a5)).toInt64 * (nI (tn a3)).toInt64) / (100 : Int64)).toInt32) (mN σ 30 + 1 - 1)).2.1) ((fX8_adds (mSK σ 30 0 (mN σ 30 + 1)) (nI 0) (tn a1) 2 (mN σ 1) ((((nI (tn a5)).toInt64 * (nI (tn a3)).toInt64) / (100 : Int64)).toInt32) (mN σ 30 + 1 - 1)).2.2) (tn a2) 2 (mN (fX8_adds (mSK σ 30 0 (mN σ 30 + 1)) (nI 0) (tn a1) 2 (mN σ 1) ((((nI (tn a5)).toInt64 * (nI (tn a3)).toInt64) / (100 : Int64)).toInt32) (mN σ 30 + 1 - 1)).2.1 1) ((((nI (tn a4)).toInt64 * (nI (100 - (tn a3))).toInt64) / (100 : Int64)).toInt32) (mN (fX8_adds (mSK σ 30 0 (mN σ 30 + 1)) (nI 0) (tn a1) 2 (mN σ 1) ((((nI (tn a5)).toInt64 * (nI (tn a3)).toInt64) / (100 : Int64)).toInt32) (mN σ 30 + 1 - 1)).2.1 30 - 1)).2.1, (fX8_adds ((fX8_adds (mSK σ 30 0 (mN σ 30 + 1)) (nI 0) (tn a1) 2 (mN σ 1) ((((nI (tn a5)).toInt64 * (nI (tn a3)).toInt64) / (100 : Int64)).toInt32) (mN σ 30 + 1 - 1)).2.1) ((fX8_adds (mSK σ 30 0 (mN σ 30 + 1)) (nI 0) (tn a1) 2 (mN σ 1) ((((nI (tn a5)).toInt64 * (nI (tn a3)).toInt64) / (100 : Int64)).toInt32) (mN σ 30 + 1 - 1)).2.2) (tn a2) 2 (mN (fX8_adds (mSK σ 30 0 (mN σ 30 + 1)) (nI 0) (tn a1) 2 (mN σ 1) ((((nI (tn a5)).toInt64 * (nI (tn a3)).toInt64) / (100 : Int64)).toInt32) (mN σ 30 + 1 - 1)).2.1 1) ((((nI (tn a4)).toInt64 * (nI (100 - (tn a3))).toInt64) / (100 : Int64)).toInt32) (mN (fX8_adds (mSK σ 30 0 (mN σ 30 + 1)) (nI 0) (tn a1) 2 (mN σ 1) ((((nI (tn a5)).toInt64 * (nI (tn a3)).toInt64) / (100 : Int64)).toInt32) (mN σ 30 + 1 - 1)).2.1 30 - 1)).2.2) else ((nI 0), σ, (nI 3)))))))))
set_option maxHeartbeats 4000000 in
set_option maxRecDepth 100000 in
theorem mX8_collide (l : Launch) (lo : Nat) (D : va_G) (E : Nat → ClassId) (h : XW) (σ : MT) (th : Int32) (r : Nat) (ar : Nat → Nat) (hR : RM E σ th r ar h) (hW : MW σ) (a1 : Int32) (a2 : Int32) (a3 : Int32) (a4 : Int32) (a5 : Int32) : Met l yX8_collide wsX8_collide ({ frames := 2, cells := 0, slots := 0, locals := 43 } : Room) (xP lo D E h [.ref r, .int a1, .int a2, .int a3, .int a4, .int a5]) (xQ lo D (fun v h' => v = some (.int (fX8_collide σ th a1 a2 a3 a4 a5).1) ∧ RM E (fX8_collide σ th a1 a2 a3 a4 a5).2.1 (fX8_collide σ th a1 a2 a3 a4 a5).2.2 r ar h' ∧ xF r ar h h')) 0 0 (xA lo) := by
  obtain ⟨G, hG⟩ : ∃ G, fX8_collide σ th a1 a2 a3 a4 a5 = G := ⟨_, rfl⟩
  rw [hG]
  unfold fX8_collide at hG
  refine Met.ofW (cc := cX8_collide) (maxL := 8) (ret := (some .int)) (by decide) rfl ?_
  intro p e s m args below meth c s₁ B hml hv
  obtain ⟨rfl, I⟩ := hv
  have hx := B.exec
  have hb := B.bytes
  have hr := B.returns
  have hts := atoms_spec (ws := wsX8_collide) B.pre
  have hown : s.vm.findClass RX8 = some m.cls := findClass_of_methodNamed B.named
  have hlocks := B.notSynchronized
  have hl := lv_entry ([.ref r, .int a1, .int a2, .int a3, .int a4, .int a5] : List Value) (n := 8) (Nat.le_of_ble_eq_true rfl)
  rw [lg_entry_eq]
  generalize (lg_sl ([.ref r, .int a1, .int a2, .int a3, .int a4, .int a5] : List Value) ++ List.replicate (8 - (lg_sl ([.ref r, .int a1, .int a2, .int a3, .int a4, .int a5] : List Value)).length) Slot.unset).toArray = ls at hl ⊢
  have hl : lv_has ls 8 [(0, .ref r), (1, .int a1), (2, .int a2), (3, .int a3), (4, .int a4), (5, .int a5)] := hl
  have hin8 : ∀ w ∈ u_ws RX8 TX8 37, w ∈ wsX8_collide := fun _ h => List.mem_cons_of_mem _ (List.mem_append_right _ (h))
  have hW0 := hW
  obtain ⟨⟨w1, w2, w3, w4, w5, w6, w7⟩, w9, w12, w21, w22, w23, w25, w31, z26, z27, z28, z36⟩ := id hW
  have hS : va_S (xA lo) s.heap s.heap [] := va_S.rf
  have hF : xF r ar h h := xF.rf
  refine lv_aload_n hx hb dX8_collide_0 rfl (lv_at hl 0 rfl) ?_
  refine lv_iload_n hx hb dX8_collide_1 rfl (lv_at hl 1 rfl) ?_
  refine xcvR (As := [.int a1]) (rest := []) (v := some (.int (fX8_isShip σ a1))) ⟨hx, hb, hml, hown, hts⟩ (mX8_isShip l lo D E h σ th r ar hR hW a1  ) (cwV 1 hts gX8_collide_X8_isShip rfl rfl rfl (by decide +kernel) ⟨Nat.le_of_ble_eq_true rfl, Nat.le_of_ble_eq_true rfl⟩) I hR.1 rfl rfl hl.1 rfl (Nat.le_of_ble_eq_true rfl) dX8_collide_2 ⟨Nat.le_of_ble_eq_true rfl, Nat.le_of_ble_eq_true rfl⟩ ?_
  refine W.eq (g2 := F0 m 5 ls [.int (fX8_isShip σ a1)]) rfl ?_
  refine lv_if_eq (tgt := 20) hx hb dX8_collide_5 (by decide) (fun c_5 => ?_) (fun c_5 => ?_)
  · skip
    rw [if_pos c_5] at hG
    refine lv_iconst (v := (nI 0)) hx hb dX8_collide_20 (by decide) ?_
    refine lv_istore (lv' := [(6, .int (nI 0)), (0, .ref r), (1, .int a1), (2, .int a2), (3, .int a3), (4, .int a4), (5, .int a5)]) hx hb dX8_collide_21 hl (by decide) rfl (fun ls hl => ?_)
    refine lv_iload_n hx hb dX8_collide_23 rfl (lv_at hl 2 rfl) ?_
    refine lv_iload_n hx hb dX8_collide_24 rfl (lv_at hl 3 rfl) ?_
    refine lv_icmp_eq (tgt := 58) hx hb dX8_collide_25 (by decide) (fun c_25 => ?_) (fun c_25 => ?_)
    · skip
      refine lv_iconst (v := (nI 0)) hx hb dX8_collide_58 (by decide) ?_
      refine lv_istore (lv' := [(7, .int (nI 0)), (6, .int (nI 0)), (0, .ref r), (1, .int a1), (2, .int a2), (3, .int a3), (4, .int a4), (5, .int a5)]) hx hb dX8_collide_59 hl (by decide) rfl (fun ls hl => ?_)
      refine lv_aload_n hx hb dX8_collide_61 rfl (lv_at hl 2 rfl) ?_
      refine lv_iload hx hb dX8_collide_62 (lv_at hl 1 rfl) ?_
      refine lv_if_ne (tgt := 71) hx hb dX8_collide_64 (by decide) (fun q => absurd (by decide) q) (fun _ => ?_)
      refine lv_iconst (v := (nI 1)) hx hb dX8_collide_67 (by decide) ?_
      refine lv_goto (tgt := 94) hx hb dX8_collide_68 (by decide) ?_
      refine xputM 0 hx hb hts hin8 hown I hS hR hF (by decide) (List.mem_of_getElem? (i := 2) rfl) rfl rfl rfl rfl rfl (hR.putTh _) dX8_collide_94 (fun H locs hw I hR hF hS => ?_)
      refine lv_aload_n hx hb dX8_collide_97 rfl (lv_at hl 2 rfl) ?_
      refine xget (C := RX8) (T := TX8) (N := 37) 0 hx hb hts hin8 hown I hR.1 rfl (by decide) (List.mem_of_getElem? (i := 2) rfl) rfl rfl dX8_collide_98 ?_
      refine lv_if_le (tgt := 106) hx hb dX8_collide_101 (by decide) (fun q => absurd q (by decide)) (fun _ => ?_)
      refine lv_iconst (v := (nI 0)) hx hb dX8_collide_104 (by decide) ?_
      subst hG
      exact xriQ hx hb hr hlocks dX8_collide_105 I hS ⟨rfl, hR, hF⟩
    · skip
      refine lv_iload_n hx hb dX8_collide_28 rfl (lv_at hl 4 rfl) ?_
      refine lv_iconst (v := (nI 0)) hx hb dX8_collide_29 (by decide) ?_
      refine lv_bipush (v := (nI 100)) hx hb dX8_collide_30 (by decide) ?_
      refine xcsR (As := [.int a3, .int (nI 0), .int (nI 100)]) (rest := []) (v := some (.int (fX8_isIn a3 (nI 0) (nI 100)))) ⟨hx, hb, hml, hown, hts⟩ (mX8_isIn l lo D E h  a3 (nI 0) (nI 100)  ) (va_cwS 3 hts gX8_collide_X8_isIn rfl rfl rfl (by decide +kernel) ⟨Nat.le_of_ble_eq_true rfl, Nat.le_of_ble_eq_true rfl⟩) I rfl hl.1 rfl (Nat.le_of_ble_eq_true rfl) dX8_collide_32 ⟨Nat.le_of_ble_eq_true rfl, Nat.le_of_ble_eq_true rfl⟩ ?_
      refine W.eq (g2 := F0 m 35 ls [.int (fX8_isIn a3 (nI 0) (nI 100))]) rfl ?_
      refine lv_if_eq (tgt := 58) hx hb dX8_collide_35 (by decide) (fun c_35 => ?_) (fun c_35 => ?_)
      · skip
        refine lv_iconst (v := (nI 0)) hx hb dX8_collide_58 (by decide) ?_
        refine lv_istore (lv' := [(7, .int (nI 0)), (6, .int (nI 0)), (0, .ref r), (1, .int a1), (2, .int a2), (3, .int a3), (4, .int a4), (5, .int a5)]) hx hb dX8_collide_59 hl (by decide) rfl (fun ls hl => ?_)
        refine lv_aload_n hx hb dX8_collide_61 rfl (lv_at hl 2 rfl) ?_
        refine lv_iload hx hb dX8_collide_62 (lv_at hl 1 rfl) ?_
        refine lv_if_ne (tgt := 71) hx hb dX8_collide_64 (by decide) (fun q => absurd (by decide) q) (fun _ => ?_)
        refine lv_iconst (v := (nI 1)) hx hb dX8_collide_67 (by decide) ?_
        refine lv_goto (tgt := 94) hx hb dX8_collide_68 (by decide) ?_
        refine xputM 0 hx hb hts hin8 hown I hS hR hF (by decide) (List.mem_of_getElem? (i := 2) rfl) rfl rfl rfl rfl rfl (hR.putTh _) dX8_collide_94 (fun H locs hw I hR hF hS => ?_)
        refine lv_aload_n hx hb dX8_collide_97 rfl (lv_at hl 2 rfl) ?_
        refine xget (C := RX8) (T := TX8) (N := 37) 0 hx hb hts hin8 hown I hR.1 rfl (by decide) (List.mem_of_getElem? (i := 2) rfl) rfl rfl dX8_collide_98 ?_
        refine lv_if_le (tgt := 106) hx hb dX8_collide_101 (by decide) (fun q => absurd q (by decide)) (fun _ => ?_)
        refine lv_iconst (v := (nI 0)) hx hb dX8_collide_104 (by decide) ?_
        subst hG
        exact xriQ hx hb hr hlocks dX8_collide_105 I hS ⟨rfl, hR, hF⟩
      · skip
        obtain ⟨e_a3, l_a3⟩ := ok_isIn (by decide) c_35
        refine lv_iload hx hb dX8_collide_38 (lv_at hl 5 rfl) ?_
        refine xcsR (As := [.int a4]) (rest := []) (v := some (.int (fX8_isLoss a4))) ⟨hx, hb, hml, hown, hts⟩ (mX8_isLoss l lo D E h  a4  ) (va_cwS 1 hts gX8_collide_X8_isLoss rfl rfl rfl (by decide +kernel) ⟨Nat.le_of_ble_eq_true rfl, Nat.le_of_ble_eq_true rfl⟩) I rfl hl.1 rfl (Nat.le_of_ble_eq_true rfl) dX8_collide_40 ⟨Nat.le_of_ble_eq_true rfl, Nat.le_of_ble_eq_true rfl⟩ ?_
        refine W.eq (g2 := F0 m 43 ls [.int (fX8_isLoss a4)]) rfl ?_
        refine lv_if_eq (tgt := 58) hx hb dX8_collide_43 (by decide) (fun c_43 => ?_) (fun c_43 => ?_)
        · skip
          refine lv_iconst (v := (nI 0)) hx hb dX8_collide_58 (by decide) ?_
          refine lv_istore (lv' := [(7, .int (nI 0)), (6, .int (nI 0)), (0, .ref r), (1, .int a1), (2, .int a2), (3, .int a3), (4, .int a4), (5, .int a5)]) hx hb dX8_collide_59 hl (by decide) rfl (fun ls hl => ?_)
          refine lv_aload_n hx hb dX8_collide_61 rfl (lv_at hl 2 rfl) ?_
          refine lv_iload hx hb dX8_collide_62 (lv_at hl 1 rfl) ?_
          refine lv_if_ne (tgt := 71) hx hb dX8_collide_64 (by decide) (fun q => absurd (by decide) q) (fun _ => ?_)
          refine lv_iconst (v := (nI 1)) hx hb dX8_collide_67 (by decide) ?_
          refine lv_goto (tgt := 94) hx hb dX8_collide_68 (by decide) ?_
          refine xputM 0 hx hb hts hin8 hown I hS hR hF (by decide) (List.mem_of_getElem? (i := 2) rfl) rfl rfl rfl rfl rfl (hR.putTh _) dX8_collide_94 (fun H locs hw I hR hF hS => ?_)
          refine lv_aload_n hx hb dX8_collide_97 rfl (lv_at hl 2 rfl) ?_
          refine xget (C := RX8) (T := TX8) (N := 37) 0 hx hb hts hin8 hown I hR.1 rfl (by decide) (List.mem_of_getElem? (i := 2) rfl) rfl rfl dX8_collide_98 ?_
          refine lv_if_le (tgt := 106) hx hb dX8_collide_101 (by decide) (fun q => absurd q (by decide)) (fun _ => ?_)
          refine lv_iconst (v := (nI 0)) hx hb dX8_collide_104 (by decide) ?_
          subst hG
          exact xriQ hx hb hr hlocks dX8_collide_105 I hS ⟨rfl, hR, hF⟩
        · skip
          obtain ⟨e_a4, l_a4⟩ := ok_isLoss c_43
          refine lv_iload hx hb dX8_collide_46 (lv_at hl 6 rfl) ?_
          refine xcsR (As := [.int a5]) (rest := []) (v := some (.int (fX8_isLoss a5))) ⟨hx, hb, hml, hown, hts⟩ (mX8_isLoss l lo D E h  a5  ) (va_cwS 1 hts gX8_collide_X8_isLoss rfl rfl rfl (by decide +kernel) ⟨Nat.le_of_ble_eq_true rfl, Nat.le_of_ble_eq_true rfl⟩) I rfl hl.1 rfl (Nat.le_of_ble_eq_true rfl) dX8_collide_48 ⟨Nat.le_of_ble_eq_true rfl, Nat.le_of_ble_eq_true rfl⟩ ?_
          refine W.eq (g2 := F0 m 51 ls [.int (fX8_isLoss a5)]) rfl ?_
          refine lv_if_eq (tgt := 58) hx hb dX8_collide_51 (by decide) (fun c_51 => ?_) (fun c_51 => ?_)
          · skip
            refine lv_iconst (v := (nI 0)) hx hb dX8_collide_58 (by decide) ?_
            refine lv_istore (lv' := [(7, .int (nI 0)), (6, .int (nI 0)), (0, .ref r), (1, .int a1), (2, .int a2), (3, .int a3), (4, .int a4), (5, .int a5)]) hx hb dX8_collide_59 hl (by decide) rfl (fun ls hl => ?_)
            refine lv_aload_n hx hb dX8_collide_61 rfl (lv_at hl 2 rfl) ?_
            refine lv_iload hx hb dX8_collide_62 (lv_at hl 1 rfl) ?_
            refine lv_if_ne (tgt := 71) hx hb dX8_collide_64 (by decide) (fun q => absurd (by decide) q) (fun _ => ?_)
            refine lv_iconst (v := (nI 1)) hx hb dX8_collide_67 (by decide) ?_
            refine lv_goto (tgt := 94) hx hb dX8_collide_68 (by decide) ?_
            refine xputM 0 hx hb hts hin8 hown I hS hR hF (by decide) (List.mem_of_getElem? (i := 2) rfl) rfl rfl rfl rfl rfl (hR.putTh _) dX8_collide_94 (fun H locs hw I hR hF hS => ?_)
            refine lv_aload_n hx hb dX8_collide_97 rfl (lv_at hl 2 rfl) ?_
            refine xget (C := RX8) (T := TX8) (N := 37) 0 hx hb hts hin8 hown I hR.1 rfl (by decide) (List.mem_of_getElem? (i := 2) rfl) rfl rfl dX8_collide_98 ?_
            refine lv_if_le (tgt := 106) hx hb dX8_collide_101 (by decide) (fun q => absurd q (by decide)) (fun _ => ?_)
            refine lv_iconst (v := (nI 0)) hx hb dX8_collide_104 (by decide) ?_
            subst hG
            exact xriQ hx hb hr hlocks dX8_collide_105 I hS ⟨rfl, hR, hF⟩
          · skip
            obtain ⟨e_a5, l_a5⟩ := ok_isLoss c_51
            refine lv_iconst (v := (nI 1)) hx hb dX8_collide_54 (by decide) ?_
            refine lv_goto (tgt := 59) hx hb dX8_collide_55 (by decide) ?_
            refine lv_istore (lv' := [(7, .int (nI 1)), (6, .int (nI 0)), (0, .ref r), (1, .int a1), (2, .int a2), (3, .int a3), (4, .int a4), (5, .int a5)]) hx hb dX8_collide_59 hl (by decide) rfl (fun ls hl => ?_)
            refine lv_aload_n hx hb dX8_collide_61 rfl (lv_at hl 2 rfl) ?_
            refine lv_iload hx hb dX8_collide_62 (lv_at hl 1 rfl) ?_
            refine lv_if_ne (tgt := 71) hx hb dX8_collide_64 (by decide) (fun q => absurd (by decide) q) (fun _ => ?_)
            refine lv_iconst (v := (nI 1)) hx hb dX8_collide_67 (by decide) ?_
            refine lv_goto (tgt := 94) hx hb dX8_collide_68 (by decide) ?_
            refine xputM 0 hx hb hts hin8 hown I hS hR hF (by decide) (List.mem_of_getElem? (i := 2) rfl) rfl rfl rfl rfl rfl (hR.putTh _) dX8_collide_94 (fun H locs hw I hR hF hS => ?_)
            refine lv_aload_n hx hb dX8_collide_97 rfl (lv_at hl 2 rfl) ?_
            refine xget (C := RX8) (T := TX8) (N := 37) 0 hx hb hts hin8 hown I hR.1 rfl (by decide) (List.mem_of_getElem? (i := 2) rfl) rfl rfl dX8_collide_98 ?_
            refine lv_if_le (tgt := 106) hx hb dX8_collide_101 (by decide) (fun q => absurd q (by decide)) (fun _ => ?_)
            refine lv_iconst (v := (nI 0)) hx hb dX8_collide_104 (by decide) ?_
            subst hG
            exact xriQ hx hb hr hlocks dX8_collide_105 I hS ⟨rfl, hR, hF⟩
  · skip
    rw [if_neg c_5] at hG
    obtain ⟨e_a1, l_a1⟩ := ok_isShip hW c_5
    refine lv_aload_n hx hb dX8_collide_8 rfl (lv_at hl 0 rfl) ?_
    refine lv_iload_n hx hb dX8_collide_9 rfl (lv_at hl 2 rfl) ?_
    refine xcvR (As := [.int a2]) (rest := []) (v := some (.int (fX8_isShip σ a2))) ⟨hx, hb, hml, hown, hts⟩ (mX8_isShip l lo D E h σ th r ar hR hW a2  ) (cwV 1 hts gX8_collide_X8_isShip rfl rfl rfl (by decide +kernel) ⟨Nat.le_of_ble_eq_true rfl, Nat.le_of_ble_eq_true rfl⟩) I hR.1 rfl rfl hl.1 rfl (Nat.le_of_ble_eq_true rfl) dX8_collide_10 ⟨Nat.le_of_ble_eq_true rfl, Nat.le_of_ble_eq_true rfl⟩ ?_
    refine W.eq (g2 := F0 m 13 ls [.int (fX8_isShip σ a2)]) rfl ?_
    refine lv_if_eq (tgt := 20) hx hb dX8_collide_13 (by decide) (fun c_13 => ?_) (fun c_13 => ?_)
    · skip
      rw [if_pos c_13] at hG
      refine lv_iconst (v := (nI 0)) hx hb dX8_collide_20 (by decide) ?_
      refine lv_istore (lv' := [(6, .int (nI 0)), (0, .ref r), (1, .int a1), (2, .int a2), (3, .int a3), (4, .int a4), (5, .int a5)]) hx hb dX8_collide_21 hl (by decide) rfl (fun ls hl => ?_)
      refine lv_iload_n hx hb dX8_collide_23 rfl (lv_at hl 2 rfl) ?_
      refine xtop (y := .int (nI (tn a1))) (congrArg Value.int e_a1) ?_
      refine lv_iload_n hx hb dX8_collide_24 rfl (lv_at hl 3 rfl) ?_
      refine lv_icmp_eq (tgt := 58) hx hb dX8_collide_25 (by decide) (fun c_25 => ?_) (fun c_25 => ?_)
      · skip
        refine lv_iconst (v := (nI 0)) hx hb dX8_collide_58 (by decide) ?_
        refine lv_istore (lv' := [(7, .int (nI 0)), (6, .int (nI 0)), (0, .ref r), (1, .int a1), (2, .int a2), (3, .int a3), (4, .int a4), (5, .int a5)]) hx hb dX8_collide_59 hl (by decide) rfl (fun ls hl => ?_)
        refine lv_aload_n hx hb dX8_collide_61 rfl (lv_at hl 2 rfl) ?_
        refine lv_iload hx hb dX8_collide_62 (lv_at hl 1 rfl) ?_
        refine lv_if_ne (tgt := 71) hx hb dX8_collide_64 (by decide) (fun q => absurd (by decide) q) (fun _ => ?_)
        refine lv_iconst (v := (nI 1)) hx hb dX8_collide_67 (by decide) ?_
        refine lv_goto (tgt := 94) hx hb dX8_collide_68 (by decide) ?_
        refine xputM 0 hx hb hts hin8 hown I hS hR hF (by decide) (List.mem_of_getElem? (i := 2) rfl) rfl rfl rfl rfl rfl (hR.putTh _) dX8_collide_94 (fun H locs hw I hR hF hS => ?_)
        refine lv_aload_n hx hb dX8_collide_97 rfl (lv_at hl 2 rfl) ?_
        refine xget (C := RX8) (T := TX8) (N := 37) 0 hx hb hts hin8 hown I hR.1 rfl (by decide) (List.mem_of_getElem? (i := 2) rfl) rfl rfl dX8_collide_98 ?_
        refine lv_if_le (tgt := 106) hx hb dX8_collide_101 (by decide) (fun q => absurd q (by decide)) (fun _ => ?_)
        refine lv_iconst (v := (nI 0)) hx hb dX8_collide_104 (by decide) ?_
        subst hG
        exact xriQ hx hb hr hlocks dX8_collide_105 I hS ⟨rfl, hR, hF⟩
      · skip
        refine lv_iload_n hx hb dX8_collide_28 rfl (lv_at hl 4 rfl) ?_
        refine lv_iconst (v := (nI 0)) hx hb dX8_collide_29 (by decide) ?_
        refine lv_bipush (v := (nI 100)) hx hb dX8_collide_30 (by decide) ?_
        refine xcsR (As := [.int a3, .int (nI 0), .int (nI 100)]) (rest := []) (v := some (.int (fX8_isIn a3 (nI 0) (nI 100)))) ⟨hx, hb, hml, hown, hts⟩ (mX8_isIn l lo D E h  a3 (nI 0) (nI 100)  ) (va_cwS 3 hts gX8_collide_X8_isIn rfl rfl rfl (by decide +kernel) ⟨Nat.le_of_ble_eq_true rfl, Nat.le_of_ble_eq_true rfl⟩) I rfl hl.1 rfl (Nat.le_of_ble_eq_true rfl) dX8_collide_32 ⟨Nat.le_of_ble_eq_true rfl, Nat.le_of_ble_eq_true rfl⟩ ?_
        refine W.eq (g2 := F0 m 35 ls [.int (fX8_isIn a3 (nI 0) (nI 100))]) rfl ?_
        refine lv_if_eq (tgt := 58) hx hb dX8_collide_35 (by decide) (fun c_35 => ?_) (fun c_35 => ?_)
        · skip
          refine lv_iconst (v := (nI 0)) hx hb dX8_collide_58 (by decide) ?_
          refine lv_istore (lv' := [(7, .int (nI 0)), (6, .int (nI 0)), (0, .ref r), (1, .int a1), (2, .int a2), (3, .int a3), (4, .int a4), (5, .int a5)]) hx hb dX8_collide_59 hl (by decide) rfl (fun ls hl => ?_)
          refine lv_aload_n hx hb dX8_collide_61 rfl (lv_at hl 2 rfl) ?_
          refine lv_iload hx hb dX8_collide_62 (lv_at hl 1 rfl) ?_
          refine lv_if_ne (tgt := 71) hx hb dX8_collide_64 (by decide) (fun q => absurd (by decide) q) (fun _ => ?_)
          refine lv_iconst (v := (nI 1)) hx hb dX8_collide_67 (by decide) ?_
          refine lv_goto (tgt := 94) hx hb dX8_collide_68 (by decide) ?_
          refine xputM 0 hx hb hts hin8 hown I hS hR hF (by decide) (List.mem_of_getElem? (i := 2) rfl) rfl rfl rfl rfl rfl (hR.putTh _) dX8_collide_94 (fun H locs hw I hR hF hS => ?_)
          refine lv_aload_n hx hb dX8_collide_97 rfl (lv_at hl 2 rfl) ?_
          refine xget (C := RX8) (T := TX8) (N := 37) 0 hx hb hts hin8 hown I hR.1 rfl (by decide) (List.mem_of_getElem? (i := 2) rfl) rfl rfl dX8_collide_98 ?_
          refine lv_if_le (tgt := 106) hx hb dX8_collide_101 (by decide) (fun q => absurd q (by decide)) (fun _ => ?_)
          refine lv_iconst (v := (nI 0)) hx hb dX8_collide_104 (by decide) ?_
          subst hG
          exact xriQ hx hb hr hlocks dX8_collide_105 I hS ⟨rfl, hR, hF⟩
        · skip
          obtain ⟨e_a3, l_a3⟩ := ok_isIn (by decide) c_35
          refine lv_iload hx hb dX8_collide_38 (lv_at hl 5 rfl) ?_
          refine xcsR (As := [.int a4]) (rest := []) (v := some (.int (fX8_isLoss a4))) ⟨hx, hb, hml, hown, hts⟩ (mX8_isLoss l lo D E h  a4  ) (va_cwS 1 hts gX8_collide_X8_isLoss rfl rfl rfl (by decide +kernel) ⟨Nat.le_of_ble_eq_true rfl, Nat.le_of_ble_eq_true rfl⟩) I rfl hl.1 rfl (Nat.le_of_ble_eq_true rfl) dX8_collide_40 ⟨Nat.le_of_ble_eq_true rfl, Nat.le_of_ble_eq_true rfl⟩ ?_
          refine W.eq (g2 := F0 m 43 ls [.int (fX8_isLoss a4)]) rfl ?_
          refine lv_if_eq (tgt := 58) hx hb dX8_collide_43 (by decide) (fun c_43 => ?_) (fun c_43 => ?_)
          · skip
            refine lv_iconst (v := (nI 0)) hx hb dX8_collide_58 (by decide) ?_
            refine lv_istore (lv' := [(7, .int (nI 0)), (6, .int (nI 0)), (0, .ref r), (1, .int a1), (2, .int a2), (3, .int a3), (4, .int a4), (5, .int a5)]) hx hb dX8_collide_59 hl (by decide) rfl (fun ls hl => ?_)
            refine lv_aload_n hx hb dX8_collide_61 rfl (lv_at hl 2 rfl) ?_
            refine lv_iload hx hb dX8_collide_62 (lv_at hl 1 rfl) ?_
            refine lv_if_ne (tgt := 71) hx hb dX8_collide_64 (by decide) (fun q => absurd (by decide) q) (fun _ => ?_)
            refine lv_iconst (v := (nI 1)) hx hb dX8_collide_67 (by decide) ?_
            refine lv_goto (tgt := 94) hx hb dX8_collide_68 (by decide) ?_
            refine xputM 0 hx hb hts hin8 hown I hS hR hF (by decide) (List.mem_of_getElem? (i := 2) rfl) rfl rfl rfl rfl rfl (hR.putTh _) dX8_collide_94 (fun H locs hw I hR hF hS => ?_)
            refine lv_aload_n hx hb dX8_collide_97 rfl (lv_at hl 2 rfl) ?_
            refine xget (C := RX8) (T := TX8) (N := 37) 0 hx hb hts hin8 hown I hR.1 rfl (by decide) (List.mem_of_getElem? (i := 2) rfl) rfl rfl dX8_collide_98 ?_
            refine lv_if_le (tgt := 106) hx hb dX8_collide_101 (by decide) (fun q => absurd q (by decide)) (fun _ => ?_)
            refine lv_iconst (v := (nI 0)) hx hb dX8_collide_104 (by decide) ?_
            subst hG
            exact xriQ hx hb hr hlocks dX8_collide_105 I hS ⟨rfl, hR, hF⟩
          · skip
            obtain ⟨e_a4, l_a4⟩ := ok_isLoss c_43
            refine lv_iload hx hb dX8_collide_46 (lv_at hl 6 rfl) ?_
            refine xcsR (As := [.int a5]) (rest := []) (v := some (.int (fX8_isLoss a5))) ⟨hx, hb, hml, hown, hts⟩ (mX8_isLoss l lo D E h  a5  ) (va_cwS 1 hts gX8_collide_X8_isLoss rfl rfl rfl (by decide +kernel) ⟨Nat.le_of_ble_eq_true rfl, Nat.le_of_ble_eq_true rfl⟩) I rfl hl.1 rfl (Nat.le_of_ble_eq_true rfl) dX8_collide_48 ⟨Nat.le_of_ble_eq_true rfl, Nat.le_of_ble_eq_true rfl⟩ ?_
            refine W.eq (g2 := F0 m 51 ls [.int (fX8_isLoss a5)]) rfl ?_
            refine lv_if_eq (tgt := 58) hx hb dX8_collide_51 (by decide) (fun c_51 => ?_) (fun c_51 => ?_)
            · skip
              refine lv_iconst (v := (nI 0)) hx hb dX8_collide_58 (by decide) ?_
              refine lv_istore (lv' := [(7, .int (nI 0)), (6, .int (nI 0)), (0, .ref r), (1, .int a1), (2, .int a2), (3, .int a3), (4, .int a4), (5, .int a5)]) hx hb dX8_collide_59 hl (by decide) rfl (fun ls hl => ?_)
              refine lv_aload_n hx hb dX8_collide_61 rfl (lv_at hl 2 rfl) ?_
              refine lv_iload hx hb dX8_collide_62 (lv_at hl 1 rfl) ?_
              refine lv_if_ne (tgt := 71) hx hb dX8_collide_64 (by decide) (fun q => absurd (by decide) q) (fun _ => ?_)
              refine lv_iconst (v := (nI 1)) hx hb dX8_collide_67 (by decide) ?_
              refine lv_goto (tgt := 94) hx hb dX8_collide_68 (by decide) ?_
              refine xputM 0 hx hb hts hin8 hown I hS hR hF (by decide) (List.mem_of_getElem? (i := 2) rfl) rfl rfl rfl rfl rfl (hR.putTh _) dX8_collide_94 (fun H locs hw I hR hF hS => ?_)
              refine lv_aload_n hx hb dX8_collide_97 rfl (lv_at hl 2 rfl) ?_
              refine xget (C := RX8) (T := TX8) (N := 37) 0 hx hb hts hin8 hown I hR.1 rfl (by decide) (List.mem_of_getElem? (i := 2) rfl) rfl rfl dX8_collide_98 ?_
              refine lv_if_le (tgt := 106) hx hb dX8_collide_101 (by decide) (fun q => absurd q (by decide)) (fun _ => ?_)
              refine lv_iconst (v := (nI 0)) hx hb dX8_collide_104 (by decide) ?_
              subst hG
              exact xriQ hx hb hr hlocks dX8_collide_105 I hS ⟨rfl, hR, hF⟩
            · skip
              obtain ⟨e_a5, l_a5⟩ := ok_isLoss c_51
              refine lv_iconst (v := (nI 1)) hx hb dX8_collide_54 (by decide) ?_
              refine lv_goto (tgt := 59) hx hb dX8_collide_55 (by decide) ?_
              refine lv_istore (lv' := [(7, .int (nI 1)), (6, .int (nI 0)), (0, .ref r), (1, .int a1), (2, .int a2), (3, .int a3), (4, .int a4), (5, .int a5)]) hx hb dX8_collide_59 hl (by decide) rfl (fun ls hl => ?_)
              refine lv_aload_n hx hb dX8_collide_61 rfl (lv_at hl 2 rfl) ?_
              refine lv_iload hx hb dX8_collide_62 (lv_at hl 1 rfl) ?_
              refine lv_if_ne (tgt := 71) hx hb dX8_collide_64 (by decide) (fun q => absurd (by decide) q) (fun _ => ?_)
              refine lv_iconst (v := (nI 1)) hx hb dX8_collide_67 (by decide) ?_
              refine lv_goto (tgt := 94) hx hb dX8_collide_68 (by decide) ?_
              refine xputM 0 hx hb hts hin8 hown I hS hR hF (by decide) (List.mem_of_getElem? (i := 2) rfl) rfl rfl rfl rfl rfl (hR.putTh _) dX8_collide_94 (fun H locs hw I hR hF hS => ?_)
              refine lv_aload_n hx hb dX8_collide_97 rfl (lv_at hl 2 rfl) ?_
              refine xget (C := RX8) (T := TX8) (N := 37) 0 hx hb hts hin8 hown I hR.1 rfl (by decide) (List.mem_of_getElem? (i := 2) rfl) rfl rfl dX8_collide_98 ?_
              refine lv_if_le (tgt := 106) hx hb dX8_collide_101 (by decide) (fun q => absurd q (by decide)) (fun _ => ?_)
              refine lv_iconst (v := (nI 0)) hx hb dX8_collide_104 (by decide) ?_
              subst hG
              exact xriQ hx hb hr hlocks dX8_collide_105 I hS ⟨rfl, hR, hF⟩
    · skip
      rw [if_neg c_13] at hG
      obtain ⟨e_a2, l_a2⟩ := ok_isShip hW c_13
      refine lv_iconst (v := (nI 1)) hx hb dX8_collide_16 (by decide) ?_
      refine lv_goto (tgt := 21) hx hb dX8_collide_17 (by decide) ?_
      refine lv_istore (lv' := [(6, .int (nI 1)), (0, .ref r), (1, .int a1), (2, .int a2), (3, .int a3), (4, .int a4), (5, .int a5)]) hx hb dX8_collide_21 hl (by decide) rfl (fun ls hl => ?_)
      refine lv_iload_n hx hb dX8_collide_23 rfl (lv_at hl 2 rfl) ?_
      refine xtop (y := .int (nI (tn a1))) (congrArg Value.int e_a1) ?_
      refine lv_iload_n hx hb dX8_collide_24 rfl (lv_at hl 3 rfl) ?_
      refine xtop (y := .int (nI (tn a2))) (congrArg Value.int e_a2) ?_
      refine lv_icmp_eq (tgt := 58) hx hb dX8_collide_25 (by decide) (fun c_25 => ?_) (fun c_25 => ?_)
      · skip
        rw [if_pos c_25] at hG
        refine lv_iconst (v := (nI 0)) hx hb dX8_collide_58 (by decide) ?_
        refine lv_istore (lv' := [(7, .int (nI 0)), (6, .int (nI 1)), (0, .ref r), (1, .int a1), (2, .int a2), (3, .int a3), (4, .int a4), (5, .int a5)]) hx hb dX8_collide_59 hl (by decide) rfl (fun ls hl => ?_)
        refine lv_aload_n hx hb dX8_collide_61 rfl (lv_at hl 2 rfl) ?_
        refine lv_iload hx hb dX8_collide_62 (lv_at hl 1 rfl) ?_
        refine lv_if_ne (tgt := 71) hx hb dX8_collide_64 (by decide) (fun _ => ?_) (fun q => absurd q (by decide))
        refine lv_iload hx hb dX8_collide_71 (lv_at hl 0 rfl) ?_
        refine lv_if_ne (tgt := 80) hx hb dX8_collide_73 (by decide) (fun q => absurd (by decide) q) (fun _ => ?_)
        refine lv_iconst (v := (nI 2)) hx hb dX8_collide_76 (by decide) ?_
        refine lv_goto (tgt := 94) hx hb dX8_collide_77 (by decide) ?_
        refine xputM 0 hx hb hts hin8 hown I hS hR hF (by decide) (List.mem_of_getElem? (i := 2) rfl) rfl rfl rfl rfl rfl (hR.putTh _) dX8_collide_94 (fun H locs hw I hR hF hS => ?_)
        refine lv_aload_n hx hb dX8_collide_97 rfl (lv_at hl 2 rfl) ?_
        refine xget (C := RX8) (T := TX8) (N := 37) 0 hx hb hts hin8 hown I hR.1 rfl (by decide) (List.mem_of_getElem? (i := 2) rfl) rfl rfl dX8_collide_98 ?_
        refine lv_if_le (tgt := 106) hx hb dX8_collide_101 (by decide) (fun q => absurd q (by decide)) (fun _ => ?_)
        refine lv_iconst (v := (nI 0)) hx hb dX8_collide_104 (by decide) ?_
        subst hG
        exact xriQ hx hb hr hlocks dX8_collide_105 I hS ⟨rfl, hR, hF⟩
      · skip
        rw [if_neg c_25] at hG
        refine lv_iload_n hx hb dX8_collide_28 rfl (lv_at hl 4 rfl) ?_
        refine lv_iconst (v := (nI 0)) hx hb dX8_collide_29 (by decide) ?_
        refine lv_bipush (v := (nI 100)) hx hb dX8_collide_30 (by decide) ?_
        refine xcsR (As := [.int a3, .int (nI 0), .int (nI 100)]) (rest := []) (v := some (.int (fX8_isIn a3 (nI 0) (nI 100)))) ⟨hx, hb, hml, hown, hts⟩ (mX8_isIn l lo D E h  a3 (nI 0) (nI 100)  ) (va_cwS 3 hts gX8_collide_X8_isIn rfl rfl rfl (by decide +kernel) ⟨Nat.le_of_ble_eq_true rfl, Nat.le_of_ble_eq_true rfl⟩) I rfl hl.1 rfl (Nat.le_of_ble_eq_true rfl) dX8_collide_32 ⟨Nat.le_of_ble_eq_true rfl, Nat.le_of_ble_eq_true rfl⟩ ?_
        refine W.eq (g2 := F0 m 35 ls [.int (fX8_isIn a3 (nI 0) (nI 100))]) rfl ?_
        refine lv_if_eq (tgt := 58) hx hb dX8_collide_35 (by decide) (fun c_35 => ?_) (fun c_35 => ?_)
        · skip
          rw [if_pos c_35] at hG
          refine lv_iconst (v := (nI 0)) hx hb dX8_collide_58 (by decide) ?_
          refine lv_istore (lv' := [(7, .int (nI 0)), (6, .int (nI 1)), (0, .ref r), (1, .int a1), (2, .int a2), (3, .int a3), (4, .int a4), (5, .int a5)]) hx hb dX8_collide_59 hl (by decide) rfl (fun ls hl => ?_)
          refine lv_aload_n hx hb dX8_collide_61 rfl (lv_at hl 2 rfl) ?_
          refine lv_iload hx hb dX8_collide_62 (lv_at hl 1 rfl) ?_
          refine lv_if_ne (tgt := 71) hx hb dX8_collide_64 (by decide) (fun _ => ?_) (fun q => absurd q (by decide))
          refine lv_iload hx hb dX8_collide_71 (lv_at hl 0 rfl) ?_
          refine lv_if_ne (tgt := 80) hx hb dX8_collide_73 (by decide) (fun q => absurd (by decide) q) (fun _ => ?_)
          refine lv_iconst (v := (nI 2)) hx hb dX8_collide_76 (by decide) ?_
          refine lv_goto (tgt := 94) hx hb dX8_collide_77 (by decide) ?_
          refine xputM 0 hx hb hts hin8 hown I hS hR hF (by decide) (List.mem_of_getElem? (i := 2) rfl) rfl rfl rfl rfl rfl (hR.putTh _) dX8_collide_94 (fun H locs hw I hR hF hS => ?_)
          refine lv_aload_n hx hb dX8_collide_97 rfl (lv_at hl 2 rfl) ?_
          refine xget (C := RX8) (T := TX8) (N := 37) 0 hx hb hts hin8 hown I hR.1 rfl (by decide) (List.mem_of_getElem? (i := 2) rfl) rfl rfl dX8_collide_98 ?_
          refine lv_if_le (tgt := 106) hx hb dX8_collide_101 (by decide) (fun q => absurd q (by decide)) (fun _ => ?_)
          refine lv_iconst (v := (nI 0)) hx hb dX8_collide_104 (by decide) ?_
          subst hG
          exact xriQ hx hb hr hlocks dX8_collide_105 I hS ⟨rfl, hR, hF⟩
        · skip
          rw [if_neg c_35] at hG
          obtain ⟨e_a3, l_a3⟩ := ok_isIn (by decide) c_35
          refine lv_iload hx hb dX8_collide_38 (lv_at hl 5 rfl) ?_
          refine xcsR (As := [.int a4]) (rest := []) (v := some (.int (fX8_isLoss a4))) ⟨hx, hb, hml, hown, hts⟩ (mX8_isLoss l lo D E h  a4  ) (va_cwS 1 hts gX8_collide_X8_isLoss rfl rfl rfl (by decide +kernel) ⟨Nat.le_of_ble_eq_true rfl, Nat.le_of_ble_eq_true rfl⟩) I rfl hl.1 rfl (Nat.le_of_ble_eq_true rfl) dX8_collide_40 ⟨Nat.le_of_ble_eq_true rfl, Nat.le_of_ble_eq_true rfl⟩ ?_
          refine W.eq (g2 := F0 m 43 ls [.int (fX8_isLoss a4)]) rfl ?_
          refine lv_if_eq (tgt := 58) hx hb dX8_collide_43 (by decide) (fun c_43 => ?_) (fun c_43 => ?_)
          · skip
            rw [if_pos c_43] at hG
            refine lv_iconst (v := (nI 0)) hx hb dX8_collide_58 (by decide) ?_
            refine lv_istore (lv' := [(7, .int (nI 0)), (6, .int (nI 1)), (0, .ref r), (1, .int a1), (2, .int a2), (3, .int a3), (4, .int a4), (5, .int a5)]) hx hb dX8_collide_59 hl (by decide) rfl (fun ls hl => ?_)
            refine lv_aload_n hx hb dX8_collide_61 rfl (lv_at hl 2 rfl) ?_
            refine lv_iload hx hb dX8_collide_62 (lv_at hl 1 rfl) ?_
            refine lv_if_ne (tgt := 71) hx hb dX8_collide_64 (by decide) (fun _ => ?_) (fun q => absurd q (by decide))
            refine lv_iload hx hb dX8_collide_71 (lv_at hl 0 rfl) ?_
            refine lv_if_ne (tgt := 80) hx hb dX8_collide_73 (by decide) (fun q => absurd (by decide) q) (fun _ => ?_)
            refine lv_iconst (v := (nI 2)) hx hb dX8_collide_76 (by decide) ?_
            refine lv_goto (tgt := 94) hx hb dX8_collide_77 (by decide) ?_
            refine xputM 0 hx hb hts hin8 hown I hS hR hF (by decide) (List.mem_of_getElem? (i := 2) rfl) rfl rfl rfl rfl rfl (hR.putTh _) dX8_collide_94 (fun H locs hw I hR hF hS => ?_)
            refine lv_aload_n hx hb dX8_collide_97 rfl (lv_at hl 2 rfl) ?_
            refine xget (C := RX8) (T := TX8) (N := 37) 0 hx hb hts hin8 hown I hR.1 rfl (by decide) (List.mem_of_getElem? (i := 2) rfl) rfl rfl dX8_collide_98 ?_
            refine lv_if_le (tgt := 106) hx hb dX8_collide_101 (by decide) (fun q => absurd q (by decide)) (fun _ => ?_)
            refine lv_iconst (v := (nI 0)) hx hb dX8_collide_104 (by decide) ?_
            subst hG
            exact xriQ hx hb hr hlocks dX8_collide_105 I hS ⟨rfl, hR, hF⟩
          · skip
            rw [if_neg c_43] at hG
            obtain ⟨e_a4, l_a4⟩ := ok_isLoss c_43
            refine lv_iload hx hb dX8_collide_46 (lv_at hl 6 rfl) ?_
            refine xcsR (As := [.int a5]) (rest := []) (v := some (.int (fX8_isLoss a5))) ⟨hx, hb, hml, hown, hts⟩ (mX8_isLoss l lo D E h  a5  ) (va_cwS 1 hts gX8_collide_X8_isLoss rfl rfl rfl (by decide +kernel) ⟨Nat.le_of_ble_eq_true rfl, Nat.le_of_ble_eq_true rfl⟩) I rfl hl.1 rfl (Nat.le_of_ble_eq_true rfl) dX8_collide_48 ⟨Nat.le_of_ble_eq_true rfl, Nat.le_of_ble_eq_true rfl⟩ ?_
            refine W.eq (g2 := F0 m 51 ls [.int (fX8_isLoss a5)]) rfl ?_
            refine lv_if_eq (tgt := 58) hx hb dX8_collide_51 (by decide) (fun c_51 => ?_) (fun c_51 => ?_)
            · skip
              rw [if_pos c_51] at hG
              refine lv_iconst (v := (nI 0)) hx hb dX8_collide_58 (by decide) ?_
              refine lv_istore (lv' := [(7, .int (nI 0)), (6, .int (nI 1)), (0, .ref r), (1, .int a1), (2, .int a2), (3, .int a3), (4, .int a4), (5, .int a5)]) hx hb dX8_collide_59 hl (by decide) rfl (fun ls hl => ?_)
              refine lv_aload_n hx hb dX8_collide_61 rfl (lv_at hl 2 rfl) ?_
              refine lv_iload hx hb dX8_collide_62 (lv_at hl 1 rfl) ?_
              refine lv_if_ne (tgt := 71) hx hb dX8_collide_64 (by decide) (fun _ => ?_) (fun q => absurd q (by decide))
              refine lv_iload hx hb dX8_collide_71 (lv_at hl 0 rfl) ?_
              refine lv_if_ne (tgt := 80) hx hb dX8_collide_73 (by decide) (fun q => absurd (by decide) q) (fun _ => ?_)
              refine lv_iconst (v := (nI 2)) hx hb dX8_collide_76 (by decide) ?_
              refine lv_goto (tgt := 94) hx hb dX8_collide_77 (by decide) ?_
              refine xputM 0 hx hb hts hin8 hown I hS hR hF (by decide) (List.mem_of_getElem? (i := 2) rfl) rfl rfl rfl rfl rfl (hR.putTh _) dX8_collide_94 (fun H locs hw I hR hF hS => ?_)
              refine lv_aload_n hx hb dX8_collide_97 rfl (lv_at hl 2 rfl) ?_
              refine xget (C := RX8) (T := TX8) (N := 37) 0 hx hb hts hin8 hown I hR.1 rfl (by decide) (List.mem_of_getElem? (i := 2) rfl) rfl rfl dX8_collide_98 ?_
              refine lv_if_le (tgt := 106) hx hb dX8_collide_101 (by decide) (fun q => absurd q (by decide)) (fun _ => ?_)
              refine lv_iconst (v := (nI 0)) hx hb dX8_collide_104 (by decide) ?_
              subst hG
              exact xriQ hx hb hr hlocks dX8_collide_105 I hS ⟨rfl, hR, hF⟩
            · skip
              rw [if_neg c_51] at hG
              obtain ⟨e_a5, l_a5⟩ := ok_isLoss c_51
              refine lv_iconst (v := (nI 1)) hx hb dX8_collide_54 (by decide) ?_
              refine lv_goto (tgt := 59) hx hb dX8_collide_55 (by decide) ?_
              refine lv_istore (lv' := [(7, .int (nI 1)), (6, .int (nI 1)), (0, .ref r), (1, .int a1), (2, .int a2), (3, .int a3), (4, .int a4), (5, .int a5)]) hx hb dX8_collide_59 hl (by decide) rfl (fun ls hl => ?_)
              refine lv_aload_n hx hb dX8_collide_61 rfl (lv_at hl 2 rfl) ?_
              refine lv_iload hx hb dX8_collide_62 (lv_at hl 1 rfl) ?_
              refine lv_if_ne (tgt := 71) hx hb dX8_collide_64 (by decide) (fun _ => ?_) (fun q => absurd q (by decide))
              refine lv_iload hx hb dX8_collide_71 (lv_at hl 0 rfl) ?_
              refine lv_if_ne (tgt := 80) hx hb dX8_collide_73 (by decide) (fun _ => ?_) (fun q => absurd q (by decide))
              refine lv_aload_n hx hb dX8_collide_80 rfl (lv_at hl 2 rfl) ?_
              refine xget (C := RX8) (T := TX8) (N := 37) 20 hx hb hts hin8 hown I hR.1 rfl (by decide) (List.mem_of_getElem? (i := 1) rfl) rfl rfl dX8_collide_81 ?_
              refine lv_bipush (v := (nI 58)) hx hb dX8_collide_84 (by decide) ?_
              refine lv_icmp_le (tgt := 93) hx hb dX8_collide_86 (by decide) (fun c_86 => ?_) (fun c_86 => ?_)
              · skip
                rw [if_pos c_86] at hG
                have d_86 : (mN σ 20) ≤ 58 := (nI_leI (by omega) (by omega)).mp c_86
                refine lv_iconst (v := (nI 0)) hx hb dX8_collide_93 (by decide) ?_
                refine xputM 0 hx hb hts hin8 hown I hS hR hF (by decide) (List.mem_of_getElem? (i := 2) rfl) rfl rfl rfl rfl rfl (hR.putTh _) dX8_collide_94 (fun H locs hw I hR hF hS => ?_)
                refine lv_aload_n hx hb dX8_collide_97 rfl (lv_at hl 2 rfl) ?_
                refine xget (C := RX8) (T := TX8) (N := 37) 0 hx hb hts hin8 hown I hR.1 rfl (by decide) (List.mem_of_getElem? (i := 2) rfl) rfl rfl dX8_collide_98 ?_
                refine lv_if_le (tgt := 106) hx hb dX8_collide_101 (by decide) (fun _ => ?_) (fun q => absurd (by decide) q)
                refine lv_aload_n hx hb dX8_collide_106 rfl (lv_at hl 2 rfl) ?_
                refine lv_dup hx hb dX8_collide_107 rfl ?_
                refine xget (C := RX8) (T := TX8) (N := 37) 30 hx hb hts hin8 hown I hR.1 rfl (by decide) (List.mem_of_getElem? (i := 3) rfl) rfl rfl dX8_collide_108 ?_
                refine lv_iconst (v := (nI 1)) hx hb dX8_collide_111 (by decide) ?_
                refine lv_iadd hx hb dX8_collide_112 ?_
                refine xtop (y := .int (nI (mN σ 30 + 1))) (congrArg Value.int (nI_add _ _)) ?_
                refine xputM 30 hx hb hts hin8 hown I hS hR hF (by decide) (List.mem_of_getElem? (i := 3) rfl) rfl rfl rfl rfl rfl (hR.putN (by decide) (mN σ 30 + 1)) dX8_collide_113 (fun H locs hw I hR hF hS => ?_)
                refine lv_aload_n hx hb dX8_collide_116 rfl (lv_at hl 2 rfl) ?_
                refine lv_iload_n hx hb dX8_collide_117 rfl (lv_at hl 3 rfl) ?_
                refine xtop (y := .int (nI (tn a1))) (congrArg Value.int e_a1) ?_
                refine lv_iconst (v := (nI 2)) hx hb dX8_collide_118 (by decide) ?_
                refine lv_aload_n hx hb dX8_collide_119 rfl (lv_at hl 2 rfl) ?_
                refine xget (C := RX8) (T := TX8) (N := 37) 1 hx hb hts hin8 hown I hR.1 rfl (by decide) (List.mem_of_getElem? (i := 4) rfl) rfl rfl dX8_collide_120 ?_
                refine lv_iload hx hb dX8_collide_123 (lv_at hl 7 rfl) ?_
                refine xtop (y := .int (nI (tn a5))) (congrArg Value.int e_a5) ?_
                refine lv_i2l (v := (nI (tn a5)).toInt64) hx hb dX8_collide_125 rfl ?_
                refine lv_iload_n hx hb dX8_collide_126 rfl (lv_at hl 5 rfl) ?_
                refine xtop (y := .int (nI (tn a3))) (congrArg Value.int e_a3) ?_
                refine lv_i2l (v := (nI (tn a3)).toInt64) hx hb dX8_collide_127 rfl ?_
                refine lv_lmul hx hb dX8_collide_128 ?_
                refine lv_ldc2 (v := (100 : Int64)) hx hb hown (hts _ (List.mem_of_getElem? (i := 5) rfl)) dX8_collide_129 ?_
                refine lv_ldiv hx hb dX8_collide_132 (by decide) ?_
                refine lv_l2i (v := (((nI (tn a5)).toInt64 * (nI (tn a3)).toInt64) / (100 : Int64)).toInt32) hx hb dX8_collide_133 rfl ?_
                refine lv_aload_n hx hb dX8_collide_134 rfl (lv_at hl 2 rfl) ?_
                refine xget (C := RX8) (T := TX8) (N := 37) 30 hx hb hts hin8 hown I hR.1 rfl (by decide) (List.mem_of_getElem? (i := 3) rfl) rfl rfl dX8_collide_135 ?_
                refine lv_iconst (v := (nI 1)) hx hb dX8_collide_138 (by decide) ?_
                refine lv_isub hx hb dX8_collide_139 ?_
                refine xtop (y := .int (nI (mN σ 30 + 1 - 1))) (congrArg Value.int (pk_sub (a := mN σ 30 + 1) (b := 1) (by omega))) ?_
                refine xcvQ (As := [.int (nI (tn a1)), .int (nI 2), .int (nI (mN σ 1)), .int (((nI (tn a5)).toInt64 * (nI (tn a3)).toInt64) / (100 : Int64)).toInt32, .int (nI (mN σ 30 + 1 - 1))]) (rest := []) ⟨hx, hb, hml, hown, hts⟩ (mX8_adds l lo D E hw (mSK σ 30 0 (mN σ 30 + 1)) (nI 0) r ar hR (tn a1) 2 (mN σ 1) ((((nI (tn a5)).toInt64 * (nI (tn a3)).toInt64) / (100 : Int64)).toInt32) (mN σ 30 + 1 - 1) (by first | assumption | omega | (simp [mSK_N, mSI_N, mSL_N]; omega)) (by first | assumption | omega | (simp [mSK_N, mSI_N, mSL_N]; omega))) (cwV 5 hts gX8_collide_X8_adds rfl rfl rfl (by decide +kernel) ⟨Nat.le_of_ble_eq_true rfl, Nat.le_of_ble_eq_true rfl⟩) I hS hR.1 rfl rfl hl.1 rfl (Nat.le_of_ble_eq_true rfl) dX8_collide_140 ⟨Nat.le_of_ble_eq_true rfl, Nat.le_of_ble_eq_true rfl⟩ (fun v9 hw H locs q9 I hS => ?_)
                obtain ⟨q1, hR, hF9⟩ := q9
                subst q1
                have hF := xF.tr hF hF9
                refine W.eq (g2 := F0 m 143 ls [.int (fX8_adds (mSK σ 30 0 (mN σ 30 + 1)) (nI 0) (tn a1) 2 (mN σ 1) ((((nI (tn a5)).toInt64 * (nI (tn a3)).toInt64) / (100 : Int64)).toInt32) (mN σ 30 + 1 - 1)).1]) rfl ?_
                have a20 : mN ((fX8_adds (mSK σ 30 0 (mN σ 30 + 1)) (nI 0) (tn a1) 2 (mN σ 1) ((((nI (tn a5)).toInt64 * (nI (tn a3)).toInt64) / (100 : Int64)).toInt32) (mN σ 30 + 1 - 1)).2.1) 20 = mN σ 20 + 1 := rfl
                have a30 : mN ((fX8_adds (mSK σ 30 0 (mN σ 30 + 1)) (nI 0) (tn a1) 2 (mN σ 1) ((((nI (tn a5)).toInt64 * (nI (tn a3)).toInt64) / (100 : Int64)).toInt32) (mN σ 30 + 1 - 1)).2.1) 30 = mN σ 30 + 1 := rfl
                refine lv_pop hx hb dX8_collide_143 rfl ?_
                refine lv_aload_n hx hb dX8_collide_144 rfl (lv_at hl 2 rfl) ?_
                refine lv_iload_n hx hb dX8_collide_145 rfl (lv_at hl 4 rfl) ?_
                refine xtop (y := .int (nI (tn a2))) (congrArg Value.int e_a2) ?_
                refine lv_iconst (v := (nI 2)) hx hb dX8_collide_146 (by decide) ?_
                refine lv_aload_n hx hb dX8_collide_147 rfl (lv_at hl 2 rfl) ?_
                refine xget (C := RX8) (T := TX8) (N := 37) 1 hx hb hts hin8 hown I hR.1 rfl (by decide) (List.mem_of_getElem? (i := 4) rfl) rfl rfl dX8_collide_148 ?_
                refine lv_iload hx hb dX8_collide_151 (lv_at hl 6 rfl) ?_
                refine xtop (y := .int (nI (tn a4))) (congrArg Value.int e_a4) ?_
                refine lv_i2l (v := (nI (tn a4)).toInt64) hx hb dX8_collide_153 rfl ?_
                refine lv_bipush (v := (nI 100)) hx hb dX8_collide_154 (by decide) ?_
                refine lv_iload_n hx hb dX8_collide_156 rfl (lv_at hl 5 rfl) ?_
                refine xtop (y := .int (nI (tn a3))) (congrArg Value.int e_a3) ?_
                refine lv_isub hx hb dX8_collide_157 ?_
                refine xtop (y := .int (nI (100 - (tn a3)))) (congrArg Value.int (pk_sub (a := 100) (b := tn a3) (by omega))) ?_
                refine lv_i2l (v := (nI (100 - (tn a3))).toInt64) hx hb dX8_collide_158 rfl ?_
                refine lv_lmul hx hb dX8_collide_159 ?_
                refine lv_ldc2 (v := (100 : Int64)) hx hb hown (hts _ (List.mem_of_getElem? (i := 5) rfl)) dX8_collide_160 ?_
                refine lv_ldiv hx hb dX8_collide_163 (by decide) ?_
                refine lv_l2i (v := (((nI (tn a4)).toInt64 * (nI (100 - (tn a3))).toInt64) / (100 : Int64)).toInt32) hx hb dX8_collide_164 rfl ?_
                refine lv_aload_n hx hb dX8_collide_165 rfl (lv_at hl 2 rfl) ?_
                refine xget (C := RX8) (T := TX8) (N := 37) 30 hx hb hts hin8 hown I hR.1 rfl (by decide) (List.mem_of_getElem? (i := 3) rfl) rfl rfl dX8_collide_166 ?_
                refine lv_iconst (v := (nI 1)) hx hb dX8_collide_169 (by decide) ?_
                refine lv_isub hx hb dX8_collide_170 ?_
                refine xtop (y := .int (nI (mN (fX8_adds (mSK σ 30 0 (mN σ 30 + 1)) (nI 0) (tn a1) 2 (mN σ 1) ((((nI (tn a5)).toInt64 * (nI (tn a3)).toInt64) / (100 : Int64)).toInt32) (mN σ 30 + 1 - 1)).2.1 30 - 1))) (congrArg Value.int (pk_sub (a := mN (fX8_adds (mSK σ 30 0 (mN σ 30 + 1)) (nI 0) (tn a1) 2 (mN σ 1) ((((nI (tn a5)).toInt64 * (nI (tn a3)).toInt64) / (100 : Int64)).toInt32) (mN σ 30 + 1 - 1)).2.1 30) (b := 1) (by omega))) ?_
                refine xcvQ (As := [.int (nI (tn a2)), .int (nI 2), .int (nI (mN (fX8_adds (mSK σ 30 0 (mN σ 30 + 1)) (nI 0) (tn a1) 2 (mN σ 1) ((((nI (tn a5)).toInt64 * (nI (tn a3)).toInt64) / (100 : Int64)).toInt32) (mN σ 30 + 1 - 1)).2.1 1)), .int (((nI (tn a4)).toInt64 * (nI (100 - (tn a3))).toInt64) / (100 : Int64)).toInt32, .int (nI (mN (fX8_adds (mSK σ 30 0 (mN σ 30 + 1)) (nI 0) (tn a1) 2 (mN σ 1) ((((nI (tn a5)).toInt64 * (nI (tn a3)).toInt64) / (100 : Int64)).toInt32) (mN σ 30 + 1 - 1)).2.1 30 - 1))]) (rest := []) ⟨hx, hb, hml, hown, hts⟩ (mX8_adds l lo D E hw ((fX8_adds (mSK σ 30 0 (mN σ 30 + 1)) (nI 0) (tn a1) 2 (mN σ 1) ((((nI (tn a5)).toInt64 * (nI (tn a3)).toInt64) / (100 : Int64)).toInt32) (mN σ 30 + 1 - 1)).2.1) ((fX8_adds (mSK σ 30 0 (mN σ 30 + 1)) (nI 0) (tn a1) 2 (mN σ 1) ((((nI (tn a5)).toInt64 * (nI (tn a3)).toInt64) / (100 : Int64)).toInt32) (mN σ 30 + 1 - 1)).2.2) r ar hR (tn a2) 2 (mN (fX8_adds (mSK σ 30 0 (mN σ 30 + 1)) (nI 0) (tn a1) 2 (mN σ 1) ((((nI (tn a5)).toInt64 * (nI (tn a3)).toInt64) / (100 : Int64)).toInt32) (mN σ 30 + 1 - 1)).2.1 1) ((((nI (tn a4)).toInt64 * (nI (100 - (tn a3))).toInt64) / (100 : Int64)).toInt32) (mN (fX8_adds (mSK σ 30 0 (mN σ 30 + 1)) (nI 0) (tn a1) 2 (mN σ 1) ((((nI (tn a5)).toInt64 * (nI (tn a3)).toInt64) / (100 : Int64)).toInt32) (mN σ 30 + 1 - 1)).2.1 30 - 1) (by first | assumption | omega | (simp [mSK_N, mSI_N, mSL_N]; omega)) (by first | assumption | omega | (simp [mSK_N, mSI_N, mSL_N]; omega))) (cwV 5 hts gX8_collide_X8_adds rfl rfl rfl (by decide +kernel) ⟨Nat.le_of_ble_eq_true rfl, Nat.le_of_ble_eq_true rfl⟩) I hS hR.1 rfl rfl hl.1 rfl (Nat.le_of_ble_eq_true rfl) dX8_collide_171 ⟨Nat.le_of_ble_eq_true rfl, Nat.le_of_ble_eq_true rfl⟩ (fun v9 hw H locs q9 I hS => ?_)
                obtain ⟨q1, hR, hF9⟩ := q9
                subst q1
                have hF := xF.tr hF hF9
                refine W.eq (g2 := F0 m 174 ls [.int (fX8_adds ((fX8_adds (mSK σ 30 0 (mN σ 30 + 1)) (nI 0) (tn a1) 2 (mN σ 1) ((((nI (tn a5)).toInt64 * (nI (tn a3)).toInt64) / (100 : Int64)).toInt32) (mN σ 30 + 1 - 1)).2.1) ((fX8_adds (mSK σ 30 0 (mN σ 30 + 1)) (nI 0) (tn a1) 2 (mN σ 1) ((((nI (tn a5)).toInt64 * (nI (tn a3)).toInt64) / (100 : Int64)).toInt32) (mN σ 30 + 1 - 1)).2.2) (tn a2) 2 (mN (fX8_adds (mSK σ 30 0 (mN σ 30 + 1)) (nI 0) (tn a1) 2 (mN σ 1) ((((nI (tn a5)).toInt64 * (nI (tn a3)).toInt64) / (100 : Int64)).toInt32) (mN σ 30 + 1 - 1)).2.1 1) ((((nI (tn a4)).toInt64 * (nI (100 - (tn a3))).toInt64) / (100 : Int64)).toInt32) (mN (fX8_adds (mSK σ 30 0 (mN σ 30 + 1)) (nI 0) (tn a1) 2 (mN σ 1) ((((nI (tn a5)).toInt64 * (nI (tn a3)).toInt64) / (100 : Int64)).toInt32) (mN σ 30 + 1 - 1)).2.1 30 - 1)).1]) rfl ?_
                refine lv_iconst (v := (nI 1)) hx hb dX8_collide_174 (by decide) ?_
                refine lv_isub hx hb dX8_collide_175 ?_
                subst hG
                exact xriQ hx hb hr hlocks dX8_collide_176 I hS ⟨rfl, hR, hF⟩
              · skip
                rw [if_neg c_86] at hG
                have d_86 : ¬ (mN σ 20) ≤ 58 := fun q => c_86 ((nI_leI (by omega) (by omega)).mpr q)
                refine lv_iconst (v := (nI 3)) hx hb dX8_collide_89 (by decide) ?_
                refine lv_goto (tgt := 94) hx hb dX8_collide_90 (by decide) ?_
                refine xputM 0 hx hb hts hin8 hown I hS hR hF (by decide) (List.mem_of_getElem? (i := 2) rfl) rfl rfl rfl rfl rfl (hR.putTh _) dX8_collide_94 (fun H locs hw I hR hF hS => ?_)
                refine lv_aload_n hx hb dX8_collide_97 rfl (lv_at hl 2 rfl) ?_
                refine xget (C := RX8) (T := TX8) (N := 37) 0 hx hb hts hin8 hown I hR.1 rfl (by decide) (List.mem_of_getElem? (i := 2) rfl) rfl rfl dX8_collide_98 ?_
                refine lv_if_le (tgt := 106) hx hb dX8_collide_101 (by decide) (fun q => absurd q (by decide)) (fun _ => ?_)
                refine lv_iconst (v := (nI 0)) hx hb dX8_collide_104 (by decide) ?_
                subst hG
                exact xriQ hx hb hr hlocks dX8_collide_105 I hS ⟨rfl, hR, hF⟩

def fX8_estimate (σ : MT) (th : Int32) (a1 : Int32) (a2 : Int32) : Int32 × MT × Int32 := (if (fX8_isClaim σ a1) = 0 then ((nI 0), σ, (nI 1)) else (if (fX8_isLoss a2) = 0 then ((nI 0), σ, (nI 2)) else (if (mI σ 26 (tn a1)) = 0 then ((mI σ 24 (tn a1)), (mSI σ 24 (tn a1) (nI (tn a2))), (nI 0)) else ((nI 0), σ, (nI 3)))))
set_option maxHeartbeats 4000000 in
set_option maxRecDepth 100000 in
theorem mX8_estimate (l : Launch) (lo : Nat) (D : va_G) (E : Nat → ClassId) (h : XW) (σ : MT) (th : Int32) (r : Nat) (ar : Nat → Nat) (hR : RM E σ th r ar h) (hW : MW σ) (a1 : Int32) (a2 : Int32) : Met l yX8_estimate wsX8_estimate ({ frames := 2, cells := 0, slots := 0, locals := 43 } : Room) (xP lo D E h [.ref r, .int a1, .int a2]) (xQ lo D (fun v h' => v = some (.int (fX8_estimate σ th a1 a2).1) ∧ RM E (fX8_estimate σ th a1 a2).2.1 (fX8_estimate σ th a1 a2).2.2 r ar h' ∧ xF r ar h h')) 0 0 (xA lo) := by
  obtain ⟨G, hG⟩ : ∃ G, fX8_estimate σ th a1 a2 = G := ⟨_, rfl⟩
  rw [hG]
  unfold fX8_estimate at hG
  refine Met.ofW (cc := cX8_estimate) (maxL := 5) (ret := (some .int)) (by decide) rfl ?_
  intro p e s m args below meth c s₁ B hml hv
  obtain ⟨rfl, I⟩ := hv
  have hx := B.exec
  have hb := B.bytes
  have hr := B.returns
  have hts := atoms_spec (ws := wsX8_estimate) B.pre
  have hown : s.vm.findClass RX8 = some m.cls := findClass_of_methodNamed B.named
  have hlocks := B.notSynchronized
  have hl := lv_entry ([.ref r, .int a1, .int a2] : List Value) (n := 5) (Nat.le_of_ble_eq_true rfl)
  rw [lg_entry_eq]
  generalize (lg_sl ([.ref r, .int a1, .int a2] : List Value) ++ List.replicate (5 - (lg_sl ([.ref r, .int a1, .int a2] : List Value)).length) Slot.unset).toArray = ls at hl ⊢
  have hl : lv_has ls 5 [(0, .ref r), (1, .int a1), (2, .int a2)] := hl
  have hin8 : ∀ w ∈ u_ws RX8 TX8 37, w ∈ wsX8_estimate := fun _ h => List.mem_cons_of_mem _ (List.mem_append_right _ (h))
  have hW0 := hW
  obtain ⟨⟨w1, w2, w3, w4, w5, w6, w7⟩, w9, w12, w21, w22, w23, w25, w31, z26, z27, z28, z36⟩ := id hW
  have hS : va_S (xA lo) s.heap s.heap [] := va_S.rf
  have hF : xF r ar h h := xF.rf
  refine lv_aload_n hx hb dX8_estimate_0 rfl (lv_at hl 0 rfl) ?_
  refine lv_iload_n hx hb dX8_estimate_1 rfl (lv_at hl 1 rfl) ?_
  refine xcvR (As := [.int a1]) (rest := []) (v := some (.int (fX8_isClaim σ a1))) ⟨hx, hb, hml, hown, hts⟩ (mX8_isClaim l lo D E h σ th r ar hR hW a1  ) (cwV 1 hts gX8_estimate_X8_isClaim rfl rfl rfl (by decide +kernel) ⟨Nat.le_of_ble_eq_true rfl, Nat.le_of_ble_eq_true rfl⟩) I hR.1 rfl rfl hl.1 rfl (Nat.le_of_ble_eq_true rfl) dX8_estimate_2 ⟨Nat.le_of_ble_eq_true rfl, Nat.le_of_ble_eq_true rfl⟩ ?_
  refine W.eq (g2 := F0 m 5 ls [.int (fX8_isClaim σ a1)]) rfl ?_
  refine lv_istore_n (lv' := [(3, .int (fX8_isClaim σ a1)), (0, .ref r), (1, .int a1), (2, .int a2)]) hx hb dX8_estimate_5 rfl hl (by decide) rfl (fun ls hl => ?_)
  refine lv_aload_n hx hb dX8_estimate_6 rfl (lv_at hl 1 rfl) ?_
  refine lv_iload_n hx hb dX8_estimate_7 rfl (lv_at hl 0 rfl) ?_
  refine lv_if_ne (tgt := 15) hx hb dX8_estimate_8 (by decide) (fun c_8 => ?_) (fun c_8 => ?_)
  · skip
    rw [if_neg c_8] at hG
    obtain ⟨e_a1, l_a1⟩ := ok_isClaim hW c_8
    refine lv_iload_n hx hb dX8_estimate_15 rfl (lv_at hl 3 rfl) ?_
    refine xcsR (As := [.int a2]) (rest := [.ref r]) (v := some (.int (fX8_isLoss a2))) ⟨hx, hb, hml, hown, hts⟩ (mX8_isLoss l lo D E h  a2  ) (va_cwS 1 hts gX8_estimate_X8_isLoss rfl rfl rfl (by decide +kernel) ⟨Nat.le_of_ble_eq_true rfl, Nat.le_of_ble_eq_true rfl⟩) I rfl hl.1 rfl (Nat.le_of_ble_eq_true rfl) dX8_estimate_16 ⟨Nat.le_of_ble_eq_true rfl, Nat.le_of_ble_eq_true rfl⟩ ?_
    refine W.eq (g2 := F0 m 19 ls [.int (fX8_isLoss a2), .ref r]) rfl ?_
    refine lv_if_ne (tgt := 26) hx hb dX8_estimate_19 (by decide) (fun c_19 => ?_) (fun c_19 => ?_)
    · skip
      rw [if_neg c_19] at hG
      obtain ⟨e_a2, l_a2⟩ := ok_isLoss c_19
      refine lv_aload_n hx hb dX8_estimate_26 rfl (lv_at hl 1 rfl) ?_
      refine xget (C := RX8) (T := TX8) (N := 37) 26 hx hb hts hin8 hown I hR.1 rfl (by decide) (List.mem_of_getElem? (i := 1) rfl) rfl rfl dX8_estimate_27 ?_
      refine lv_iload_n hx hb dX8_estimate_30 rfl (lv_at hl 2 rfl) ?_
      refine xtop (y := .int (nI (tn a1))) (congrArg Value.int e_a1) ?_
      refine xzald (i := (tn a1)) (n := 60) hx hb I (hR.2.2.2.2.1 26 60 (by decide)) (by omega) (by decide) dX8_estimate_31 ?_
      refine lv_if_eq (tgt := 39) hx hb dX8_estimate_32 (by decide) (fun c_32 => ?_) (fun c_32 => ?_)
      · skip
        rw [if_pos c_32] at hG
        refine lv_iconst (v := (nI 0)) hx hb dX8_estimate_39 (by decide) ?_
        refine xputM 0 hx hb hts hin8 hown I hS hR hF (by decide) (List.mem_of_getElem? (i := 2) rfl) rfl rfl rfl rfl rfl (hR.putTh _) dX8_estimate_40 (fun H locs hw I hR hF hS => ?_)
        refine lv_aload_n hx hb dX8_estimate_43 rfl (lv_at hl 1 rfl) ?_
        refine xget (C := RX8) (T := TX8) (N := 37) 0 hx hb hts hin8 hown I hR.1 rfl (by decide) (List.mem_of_getElem? (i := 2) rfl) rfl rfl dX8_estimate_44 ?_
        refine lv_if_le (tgt := 52) hx hb dX8_estimate_47 (by decide) (fun _ => ?_) (fun q => absurd (by decide) q)
        refine lv_aload_n hx hb dX8_estimate_52 rfl (lv_at hl 1 rfl) ?_
        refine xget (C := RX8) (T := TX8) (N := 37) 24 hx hb hts hin8 hown I hR.1 rfl (by decide) (List.mem_of_getElem? (i := 3) rfl) rfl rfl dX8_estimate_53 ?_
        refine lv_iload_n hx hb dX8_estimate_56 rfl (lv_at hl 2 rfl) ?_
        refine xtop (y := .int (nI (tn a1))) (congrArg Value.int e_a1) ?_
        refine xiald (i := (tn a1)) (n := 60) hx hb I (hR.2.1 24 60 (by decide)) (by omega) (by decide) dX8_estimate_57 ?_
        refine lv_istore (lv' := [(4, .int (mI σ 24 (tn a1))), (3, .int (fX8_isClaim σ a1)), (0, .ref r), (1, .int a1), (2, .int a2)]) hx hb dX8_estimate_58 hl (by decide) rfl (fun ls hl => ?_)
        refine lv_aload_n hx hb dX8_estimate_60 rfl (lv_at hl 2 rfl) ?_
        refine xget (C := RX8) (T := TX8) (N := 37) 24 hx hb hts hin8 hown I hR.1 rfl (by decide) (List.mem_of_getElem? (i := 3) rfl) rfl rfl dX8_estimate_61 ?_
        refine lv_iload_n hx hb dX8_estimate_64 rfl (lv_at hl 3 rfl) ?_
        refine xtop (y := .int (nI (tn a1))) (congrArg Value.int e_a1) ?_
        refine lv_iload_n hx hb dX8_estimate_65 rfl (lv_at hl 4 rfl) ?_
        refine xtop (y := .int (nI (tn a2))) (congrArg Value.int e_a2) ?_
        refine xiM (i := (tn a1)) (n := 60) 24 hx hb I hS hR hF (by decide) (by omega) (by decide) dX8_estimate_66 (fun H locs hw I hR hF hS => ?_)
        have hW := hW.sI (k := 24) (by decide) (tn a1) (nI (tn a2))
        refine lv_iload hx hb dX8_estimate_67 (lv_at hl 0 rfl) ?_
        subst hG
        exact xriQ hx hb hr hlocks dX8_estimate_69 I hS ⟨rfl, hR, hF⟩
      · skip
        rw [if_neg c_32] at hG
        refine lv_iconst (v := (nI 3)) hx hb dX8_estimate_35 (by decide) ?_
        refine lv_goto (tgt := 40) hx hb dX8_estimate_36 (by decide) ?_
        refine xputM 0 hx hb hts hin8 hown I hS hR hF (by decide) (List.mem_of_getElem? (i := 2) rfl) rfl rfl rfl rfl rfl (hR.putTh _) dX8_estimate_40 (fun H locs hw I hR hF hS => ?_)
        refine lv_aload_n hx hb dX8_estimate_43 rfl (lv_at hl 1 rfl) ?_
        refine xget (C := RX8) (T := TX8) (N := 37) 0 hx hb hts hin8 hown I hR.1 rfl (by decide) (List.mem_of_getElem? (i := 2) rfl) rfl rfl dX8_estimate_44 ?_
        refine lv_if_le (tgt := 52) hx hb dX8_estimate_47 (by decide) (fun q => absurd q (by decide)) (fun _ => ?_)
        refine lv_iconst (v := (nI 0)) hx hb dX8_estimate_50 (by decide) ?_
        subst hG
        exact xriQ hx hb hr hlocks dX8_estimate_51 I hS ⟨rfl, hR, hF⟩
    · skip
      rw [if_pos c_19] at hG
      refine lv_iconst (v := (nI 2)) hx hb dX8_estimate_22 (by decide) ?_
      refine lv_goto (tgt := 40) hx hb dX8_estimate_23 (by decide) ?_
      refine xputM 0 hx hb hts hin8 hown I hS hR hF (by decide) (List.mem_of_getElem? (i := 2) rfl) rfl rfl rfl rfl rfl (hR.putTh _) dX8_estimate_40 (fun H locs hw I hR hF hS => ?_)
      refine lv_aload_n hx hb dX8_estimate_43 rfl (lv_at hl 1 rfl) ?_
      refine xget (C := RX8) (T := TX8) (N := 37) 0 hx hb hts hin8 hown I hR.1 rfl (by decide) (List.mem_of_getElem? (i := 2) rfl) rfl rfl dX8_estimate_44 ?_
      refine lv_if_le (tgt := 52) hx hb dX8_estimate_47 (by decide) (fun q => absurd q (by decide)) (fun _ => ?_)
      refine lv_iconst (v := (nI 0)) hx hb dX8_estimate_50 (by decide) ?_
      subst hG
      exact xriQ hx hb hr hlocks dX8_estimate_51 I hS ⟨rfl, hR, hF⟩
  · skip
    rw [if_pos c_8] at hG
    refine lv_iconst (v := (nI 1)) hx hb dX8_estimate_11 (by decide) ?_
    refine lv_goto (tgt := 40) hx hb dX8_estimate_12 (by decide) ?_
    refine xputM 0 hx hb hts hin8 hown I hS hR hF (by decide) (List.mem_of_getElem? (i := 2) rfl) rfl rfl rfl rfl rfl (hR.putTh _) dX8_estimate_40 (fun H locs hw I hR hF hS => ?_)
    refine lv_aload_n hx hb dX8_estimate_43 rfl (lv_at hl 1 rfl) ?_
    refine xget (C := RX8) (T := TX8) (N := 37) 0 hx hb hts hin8 hown I hR.1 rfl (by decide) (List.mem_of_getElem? (i := 2) rfl) rfl rfl dX8_estimate_44 ?_
    refine lv_if_le (tgt := 52) hx hb dX8_estimate_47 (by decide) (fun q => absurd q (by decide)) (fun _ => ?_)
    refine lv_iconst (v := (nI 0)) hx hb dX8_estimate_50 (by decide) ?_
    subst hG
    exact xriQ hx hb hr hlocks dX8_estimate_51 I hS ⟨rfl, hR, hF⟩

def fX8_letter (σ : MT) (th : Int32) (a1 : Int32) (a2 : Int32) : Int32 × MT × Int32 := (if (fX8_isClaim σ a1) = 0 then ((nI 0), σ, (nI 1)) else (if (fX8_isIn a2 (nI 1) (nI 100000000)) = 0 then ((nI 0), σ, (nI 2)) else (if (mI σ 26 (tn a1)) = 0 then (if (mI σ 24 (tn a1)).toInt64 < ((mI σ 29 (tn a1)).toInt64 + (nI (tn a2)).toInt64) then ((nI 0), σ, (nI 3)) else ((mI (mSI σ 29 (tn a1) ((mI σ 29 (tn a1)) + (nI (tn a2)))) 29 (tn a1)), (mSI σ 29 (tn a1) ((mI σ 29 (tn a1)) + (nI (tn a2)))), (nI 0))) else ((nI 0), σ, (nI 3)))))
set_option maxHeartbeats 4000000 in
set_option maxRecDepth 100000 in
theorem mX8_letter (l : Launch) (lo : Nat) (D : va_G) (E : Nat → ClassId) (h : XW) (σ : MT) (th : Int32) (r : Nat) (ar : Nat → Nat) (hR : RM E σ th r ar h) (hW : MW σ) (a1 : Int32) (a2 : Int32) : Met l yX8_letter wsX8_letter ({ frames := 2, cells := 0, slots := 0, locals := 43 } : Room) (xP lo D E h [.ref r, .int a1, .int a2]) (xQ lo D (fun v h' => v = some (.int (fX8_letter σ th a1 a2).1) ∧ RM E (fX8_letter σ th a1 a2).2.1 (fX8_letter σ th a1 a2).2.2 r ar h' ∧ xF r ar h h')) 0 0 (xA lo) := by
  obtain ⟨G, hG⟩ : ∃ G, fX8_letter σ th a1 a2 = G := ⟨_, rfl⟩
  rw [hG]
  unfold fX8_letter at hG
  refine Met.ofW (cc := cX8_letter) (maxL := 6) (ret := (some .int)) (by decide) rfl ?_
  intro p e s m args below meth c s₁ B hml hv
  obtain ⟨rfl, I⟩ := hv
  have hx := B.exec
  have hb := B.bytes
  have hr := B.returns
  have hts := atoms_spec (ws := wsX8_letter) B.pre
  have hown : s.vm.findClass RX8 = some m.cls := findClass_of_methodNamed B.named
  have hlocks := B.notSynchronized
  have hl := lv_entry ([.ref r, .int a1, .int a2] : List Value) (n := 6) (Nat.le_of_ble_eq_true rfl)
  rw [lg_entry_eq]
  generalize (lg_sl ([.ref r, .int a1, .int a2] : List Value) ++ List.replicate (6 - (lg_sl ([.ref r, .int a1, .int a2] : List Value)).length) Slot.unset).toArray = ls at hl ⊢
  have hl : lv_has ls 6 [(0, .ref r), (1, .int a1), (2, .int a2)] := hl
  have hin8 : ∀ w ∈ u_ws RX8 TX8 37, w ∈ wsX8_letter := fun _ h => List.mem_cons_of_mem _ (List.mem_append_right _ (h))
  have hW0 := hW
  obtain ⟨⟨w1, w2, w3, w4, w5, w6, w7⟩, w9, w12, w21, w22, w23, w25, w31, z26, z27, z28, z36⟩ := id hW
  have hS : va_S (xA lo) s.heap s.heap [] := va_S.rf
  have hF : xF r ar h h := xF.rf
  refine lv_aload_n hx hb dX8_letter_0 rfl (lv_at hl 0 rfl) ?_
  refine lv_iload_n hx hb dX8_letter_1 rfl (lv_at hl 1 rfl) ?_
  refine xcvR (As := [.int a1]) (rest := []) (v := some (.int (fX8_isClaim σ a1))) ⟨hx, hb, hml, hown, hts⟩ (mX8_isClaim l lo D E h σ th r ar hR hW a1  ) (cwV 1 hts gX8_letter_X8_isClaim rfl rfl rfl (by decide +kernel) ⟨Nat.le_of_ble_eq_true rfl, Nat.le_of_ble_eq_true rfl⟩) I hR.1 rfl rfl hl.1 rfl (Nat.le_of_ble_eq_true rfl) dX8_letter_2 ⟨Nat.le_of_ble_eq_true rfl, Nat.le_of_ble_eq_true rfl⟩ ?_
  refine W.eq (g2 := F0 m 5 ls [.int (fX8_isClaim σ a1)]) rfl ?_
  refine lv_istore_n (lv' := [(3, .int (fX8_isClaim σ a1)), (0, .ref r), (1, .int a1), (2, .int a2)]) hx hb dX8_letter_5 rfl hl (by decide) rfl (fun ls hl => ?_)
  refine lv_iload_n hx hb dX8_letter_6 rfl (lv_at hl 3 rfl) ?_
  refine lv_iconst (v := (nI 1)) hx hb dX8_letter_7 (by decide) ?_
  refine lv_ldc (v := (nI 100000000)) hx hb hown (hts _ (List.mem_of_getElem? (i := 1) rfl)) dX8_letter_8 ?_
  refine xcsR (As := [.int a2, .int (nI 1), .int (nI 100000000)]) (rest := []) (v := some (.int (fX8_isIn a2 (nI 1) (nI 100000000)))) ⟨hx, hb, hml, hown, hts⟩ (mX8_isIn l lo D E h  a2 (nI 1) (nI 100000000)  ) (va_cwS 3 hts gX8_letter_X8_isIn rfl rfl rfl (by decide +kernel) ⟨Nat.le_of_ble_eq_true rfl, Nat.le_of_ble_eq_true rfl⟩) I rfl hl.1 rfl (Nat.le_of_ble_eq_true rfl) dX8_letter_10 ⟨Nat.le_of_ble_eq_true rfl, Nat.le_of_ble_eq_true rfl⟩ ?_
  refine W.eq (g2 := F0 m 13 ls [.int (fX8_isIn a2 (nI 1) (nI 100000000))]) rfl ?_
  refine lv_istore (lv' := [(4, .int (fX8_isIn a2 (nI 1) (nI 100000000))), (3, .int (fX8_isClaim σ a1)), (0, .ref r), (1, .int a1), (2, .int a2)]) hx hb dX8_letter_13 hl (by decide) rfl (fun ls hl => ?_)
  refine lv_iload_n hx hb dX8_letter_15 rfl (lv_at hl 1 rfl) ?_
  refine lv_if_eq (tgt := 58) hx hb dX8_letter_16 (by decide) (fun c_16 => ?_) (fun c_16 => ?_)
  · skip
    rw [if_pos c_16] at hG
    refine lv_iconst (v := (nI 0)) hx hb dX8_letter_58 (by decide) ?_
    refine lv_istore (lv' := [(5, .int (nI 0)), (4, .int (fX8_isIn a2 (nI 1) (nI 100000000))), (3, .int (fX8_isClaim σ a1)), (0, .ref r), (1, .int a1), (2, .int a2)]) hx hb dX8_letter_59 hl (by decide) rfl (fun ls hl => ?_)
    refine lv_aload_n hx hb dX8_letter_61 rfl (lv_at hl 3 rfl) ?_
    refine lv_iload_n hx hb dX8_letter_62 rfl (lv_at hl 2 rfl) ?_
    refine lv_if_ne (tgt := 70) hx hb dX8_letter_63 (by decide) (fun q => absurd c_16 q) (fun _ => ?_)
    refine lv_iconst (v := (nI 1)) hx hb dX8_letter_66 (by decide) ?_
    refine lv_goto (tgt := 89) hx hb dX8_letter_67 (by decide) ?_
    refine xputM 0 hx hb hts hin8 hown I hS hR hF (by decide) (List.mem_of_getElem? (i := 5) rfl) rfl rfl rfl rfl rfl (hR.putTh _) dX8_letter_89 (fun H locs hw I hR hF hS => ?_)
    refine lv_aload_n hx hb dX8_letter_92 rfl (lv_at hl 3 rfl) ?_
    refine xget (C := RX8) (T := TX8) (N := 37) 0 hx hb hts hin8 hown I hR.1 rfl (by decide) (List.mem_of_getElem? (i := 5) rfl) rfl rfl dX8_letter_93 ?_
    refine lv_if_le (tgt := 101) hx hb dX8_letter_96 (by decide) (fun q => absurd q (by decide)) (fun _ => ?_)
    refine lv_iconst (v := (nI 0)) hx hb dX8_letter_99 (by decide) ?_
    subst hG
    exact xriQ hx hb hr hlocks dX8_letter_100 I hS ⟨rfl, hR, hF⟩
  · skip
    rw [if_neg c_16] at hG
    obtain ⟨e_a1, l_a1⟩ := ok_isClaim hW c_16
    refine lv_iload hx hb dX8_letter_19 (lv_at hl 0 rfl) ?_
    refine lv_if_eq (tgt := 58) hx hb dX8_letter_21 (by decide) (fun c_21 => ?_) (fun c_21 => ?_)
    · skip
      rw [if_pos c_21] at hG
      refine lv_iconst (v := (nI 0)) hx hb dX8_letter_58 (by decide) ?_
      refine lv_istore (lv' := [(5, .int (nI 0)), (4, .int (fX8_isIn a2 (nI 1) (nI 100000000))), (3, .int (fX8_isClaim σ a1)), (0, .ref r), (1, .int a1), (2, .int a2)]) hx hb dX8_letter_59 hl (by decide) rfl (fun ls hl => ?_)
      refine lv_aload_n hx hb dX8_letter_61 rfl (lv_at hl 3 rfl) ?_
      refine lv_iload_n hx hb dX8_letter_62 rfl (lv_at hl 2 rfl) ?_
      refine lv_if_ne (tgt := 70) hx hb dX8_letter_63 (by decide) (fun _ => ?_) (fun q => absurd q c_16)
      refine lv_iload hx hb dX8_letter_70 (lv_at hl 1 rfl) ?_
      refine lv_if_ne (tgt := 79) hx hb dX8_letter_72 (by decide) (fun q => absurd c_21 q) (fun _ => ?_)
      refine lv_iconst (v := (nI 2)) hx hb dX8_letter_75 (by decide) ?_
      refine lv_goto (tgt := 89) hx hb dX8_letter_76 (by decide) ?_
      refine xputM 0 hx hb hts hin8 hown I hS hR hF (by decide) (List.mem_of_getElem? (i := 5) rfl) rfl rfl rfl rfl rfl (hR.putTh _) dX8_letter_89 (fun H locs hw I hR hF hS => ?_)
      refine lv_aload_n hx hb dX8_letter_92 rfl (lv_at hl 3 rfl) ?_
      refine xget (C := RX8) (T := TX8) (N := 37) 0 hx hb hts hin8 hown I hR.1 rfl (by decide) (List.mem_of_getElem? (i := 5) rfl) rfl rfl dX8_letter_93 ?_
      refine lv_if_le (tgt := 101) hx hb dX8_letter_96 (by decide) (fun q => absurd q (by decide)) (fun _ => ?_)
      refine lv_iconst (v := (nI 0)) hx hb dX8_letter_99 (by decide) ?_
      subst hG
      exact xriQ hx hb hr hlocks dX8_letter_100 I hS ⟨rfl, hR, hF⟩
    · skip
      rw [if_neg c_21] at hG
      obtain ⟨e_a2, l_a2⟩ := ok_isIn (by decide) c_21
      refine lv_aload_n hx hb dX8_letter_24 rfl (lv_at hl 2 rfl) ?_
      refine xget (C := RX8) (T := TX8) (N := 37) 26 hx hb hts hin8 hown I hR.1 rfl (by decide) (List.mem_of_getElem? (i := 2) rfl) rfl rfl dX8_letter_25 ?_
      refine lv_iload_n hx hb dX8_letter_28 rfl (lv_at hl 3 rfl) ?_
      refine xtop (y := .int (nI (tn a1))) (congrArg Value.int e_a1) ?_
      refine xzald (i := (tn a1)) (n := 60) hx hb I (hR.2.2.2.2.1 26 60 (by decide)) (by omega) (by decide) dX8_letter_29 ?_
      refine lv_if_ne (tgt := 58) hx hb dX8_letter_30 (by decide) (fun c_30 => ?_) (fun c_30 => ?_)
      · skip
        rw [if_neg c_30] at hG
        refine lv_iconst (v := (nI 0)) hx hb dX8_letter_58 (by decide) ?_
        refine lv_istore (lv' := [(5, .int (nI 0)), (4, .int (fX8_isIn a2 (nI 1) (nI 100000000))), (3, .int (fX8_isClaim σ a1)), (0, .ref r), (1, .int a1), (2, .int a2)]) hx hb dX8_letter_59 hl (by decide) rfl (fun ls hl => ?_)
        refine lv_aload_n hx hb dX8_letter_61 rfl (lv_at hl 3 rfl) ?_
        refine lv_iload_n hx hb dX8_letter_62 rfl (lv_at hl 2 rfl) ?_
        refine lv_if_ne (tgt := 70) hx hb dX8_letter_63 (by decide) (fun _ => ?_) (fun q => absurd q c_16)
        refine lv_iload hx hb dX8_letter_70 (lv_at hl 1 rfl) ?_
        refine lv_if_ne (tgt := 79) hx hb dX8_letter_72 (by decide) (fun _ => ?_) (fun q => absurd q c_21)
        refine lv_iload hx hb dX8_letter_79 (lv_at hl 0 rfl) ?_
        refine lv_if_ne (tgt := 88) hx hb dX8_letter_81 (by decide) (fun q => absurd (by decide) q) (fun _ => ?_)
        refine lv_iconst (v := (nI 3)) hx hb dX8_letter_84 (by decide) ?_
        refine lv_goto (tgt := 89) hx hb dX8_letter_85 (by decide) ?_
        refine xputM 0 hx hb hts hin8 hown I hS hR hF (by decide) (List.mem_of_getElem? (i := 5) rfl) rfl rfl rfl rfl rfl (hR.putTh _) dX8_letter_89 (fun H locs hw I hR hF hS => ?_)
        refine lv_aload_n hx hb dX8_letter_92 rfl (lv_at hl 3 rfl) ?_
        refine xget (C := RX8) (T := TX8) (N := 37) 0 hx hb hts hin8 hown I hR.1 rfl (by decide) (List.mem_of_getElem? (i := 5) rfl) rfl rfl dX8_letter_93 ?_
        refine lv_if_le (tgt := 101) hx hb dX8_letter_96 (by decide) (fun q => absurd q (by decide)) (fun _ => ?_)
        refine lv_iconst (v := (nI 0)) hx hb dX8_letter_99 (by decide) ?_
        subst hG
        exact xriQ hx hb hr hlocks dX8_letter_100 I hS ⟨rfl, hR, hF⟩
      · skip
        rw [if_pos c_30] at hG
        refine lv_aload_n hx hb dX8_letter_33 rfl (lv_at hl 2 rfl) ?_
        refine xget (C := RX8) (T := TX8) (N := 37) 29 hx hb hts hin8 hown I hR.1 rfl (by decide) (List.mem_of_getElem? (i := 3) rfl) rfl rfl dX8_letter_34 ?_
        refine lv_iload_n hx hb dX8_letter_37 rfl (lv_at hl 3 rfl) ?_
        refine xtop (y := .int (nI (tn a1))) (congrArg Value.int e_a1) ?_
        refine xiald (i := (tn a1)) (n := 60) hx hb I (hR.2.1 29 60 (by decide)) (by omega) (by decide) dX8_letter_38 ?_
        refine lv_i2l (v := (mI σ 29 (tn a1)).toInt64) hx hb dX8_letter_39 rfl ?_
        refine lv_iload_n hx hb dX8_letter_40 rfl (lv_at hl 4 rfl) ?_
        refine xtop (y := .int (nI (tn a2))) (congrArg Value.int e_a2) ?_
        refine lv_i2l (v := (nI (tn a2)).toInt64) hx hb dX8_letter_41 rfl ?_
        refine lv_ladd hx hb dX8_letter_42 ?_
        refine lv_aload_n hx hb dX8_letter_43 rfl (lv_at hl 2 rfl) ?_
        refine xget (C := RX8) (T := TX8) (N := 37) 24 hx hb hts hin8 hown I hR.1 rfl (by decide) (List.mem_of_getElem? (i := 4) rfl) rfl rfl dX8_letter_44 ?_
        refine lv_iload_n hx hb dX8_letter_47 rfl (lv_at hl 3 rfl) ?_
        refine xtop (y := .int (nI (tn a1))) (congrArg Value.int e_a1) ?_
        refine xiald (i := (tn a1)) (n := 60) hx hb I (hR.2.1 24 60 (by decide)) (by omega) (by decide) dX8_letter_48 ?_
        refine lv_i2l (v := (mI σ 24 (tn a1)).toInt64) hx hb dX8_letter_49 rfl ?_
        refine xl_gt (tgt := 58) hx hb dX8_letter_50 dX8_letter_51 (by decide) (fun c_50 => ?_) (fun c_50 => ?_)
        · skip
          rw [if_pos c_50] at hG
          refine lv_iconst (v := (nI 0)) hx hb dX8_letter_58 (by decide) ?_
          refine lv_istore (lv' := [(5, .int (nI 0)), (4, .int (fX8_isIn a2 (nI 1) (nI 100000000))), (3, .int (fX8_isClaim σ a1)), (0, .ref r), (1, .int a1), (2, .int a2)]) hx hb dX8_letter_59 hl (by decide) rfl (fun ls hl => ?_)
          refine lv_aload_n hx hb dX8_letter_61 rfl (lv_at hl 3 rfl) ?_
          refine lv_iload_n hx hb dX8_letter_62 rfl (lv_at hl 2 rfl) ?_
          refine lv_if_ne (tgt := 70) hx hb dX8_letter_63 (by decide) (fun _ => ?_) (fun q => absurd q c_16)
          refine lv_iload hx hb dX8_letter_70 (lv_at hl 1 rfl) ?_
          refine lv_if_ne (tgt := 79) hx hb dX8_letter_72 (by decide) (fun _ => ?_) (fun q => absurd q c_21)
          refine lv_iload hx hb dX8_letter_79 (lv_at hl 0 rfl) ?_
          refine lv_if_ne (tgt := 88) hx hb dX8_letter_81 (by decide) (fun q => absurd (by decide) q) (fun _ => ?_)
          refine lv_iconst (v := (nI 3)) hx hb dX8_letter_84 (by decide) ?_
          refine lv_goto (tgt := 89) hx hb dX8_letter_85 (by decide) ?_
          refine xputM 0 hx hb hts hin8 hown I hS hR hF (by decide) (List.mem_of_getElem? (i := 5) rfl) rfl rfl rfl rfl rfl (hR.putTh _) dX8_letter_89 (fun H locs hw I hR hF hS => ?_)
          refine lv_aload_n hx hb dX8_letter_92 rfl (lv_at hl 3 rfl) ?_
          refine xget (C := RX8) (T := TX8) (N := 37) 0 hx hb hts hin8 hown I hR.1 rfl (by decide) (List.mem_of_getElem? (i := 5) rfl) rfl rfl dX8_letter_93 ?_
          refine lv_if_le (tgt := 101) hx hb dX8_letter_96 (by decide) (fun q => absurd q (by decide)) (fun _ => ?_)
          refine lv_iconst (v := (nI 0)) hx hb dX8_letter_99 (by decide) ?_
          subst hG
          exact xriQ hx hb hr hlocks dX8_letter_100 I hS ⟨rfl, hR, hF⟩
        · skip
          rw [if_neg c_50] at hG
          refine lv_iconst (v := (nI 1)) hx hb dX8_letter_54 (by decide) ?_
          refine lv_goto (tgt := 59) hx hb dX8_letter_55 (by decide) ?_
          refine lv_istore (lv' := [(5, .int (nI 1)), (4, .int (fX8_isIn a2 (nI 1) (nI 100000000))), (3, .int (fX8_isClaim σ a1)), (0, .ref r), (1, .int a1), (2, .int a2)]) hx hb dX8_letter_59 hl (by decide) rfl (fun ls hl => ?_)
          refine lv_aload_n hx hb dX8_letter_61 rfl (lv_at hl 3 rfl) ?_
          refine lv_iload_n hx hb dX8_letter_62 rfl (lv_at hl 2 rfl) ?_
          refine lv_if_ne (tgt := 70) hx hb dX8_letter_63 (by decide) (fun _ => ?_) (fun q => absurd q c_16)
          refine lv_iload hx hb dX8_letter_70 (lv_at hl 1 rfl) ?_
          refine lv_if_ne (tgt := 79) hx hb dX8_letter_72 (by decide) (fun _ => ?_) (fun q => absurd q c_21)
          refine lv_iload hx hb dX8_letter_79 (lv_at hl 0 rfl) ?_
          refine lv_if_ne (tgt := 88) hx hb dX8_letter_81 (by decide) (fun _ => ?_) (fun q => absurd q (by decide))
          refine lv_iconst (v := (nI 0)) hx hb dX8_letter_88 (by decide) ?_
          refine xputM 0 hx hb hts hin8 hown I hS hR hF (by decide) (List.mem_of_getElem? (i := 5) rfl) rfl rfl rfl rfl rfl (hR.putTh _) dX8_letter_89 (fun H locs hw I hR hF hS => ?_)
          refine lv_aload_n hx hb dX8_letter_92 rfl (lv_at hl 3 rfl) ?_
          refine xget (C := RX8) (T := TX8) (N := 37) 0 hx hb hts hin8 hown I hR.1 rfl (by decide) (List.mem_of_getElem? (i := 5) rfl) rfl rfl dX8_letter_93 ?_
          refine lv_if_le (tgt := 101) hx hb dX8_letter_96 (by decide) (fun _ => ?_) (fun q => absurd (by decide) q)
          refine lv_aload_n hx hb dX8_letter_101 rfl (lv_at hl 3 rfl) ?_
          refine xget (C := RX8) (T := TX8) (N := 37) 29 hx hb hts hin8 hown I hR.1 rfl (by decide) (List.mem_of_getElem? (i := 3) rfl) rfl rfl dX8_letter_102 ?_
          refine lv_iload_n hx hb dX8_letter_105 rfl (lv_at hl 4 rfl) ?_
          refine xtop (y := .int (nI (tn a1))) (congrArg Value.int e_a1) ?_
          refine lv_dup2_11 hx hb dX8_letter_106 rfl rfl ?_
          refine xiald (i := (tn a1)) (n := 60) hx hb I (hR.2.1 29 60 (by decide)) (by omega) (by decide) dX8_letter_107 ?_
          refine lv_iload_n hx hb dX8_letter_108 rfl (lv_at hl 5 rfl) ?_
          refine xtop (y := .int (nI (tn a2))) (congrArg Value.int e_a2) ?_
          refine lv_iadd hx hb dX8_letter_109 ?_
          refine xiM (i := (tn a1)) (n := 60) 29 hx hb I hS hR hF (by decide) (by omega) (by decide) dX8_letter_110 (fun H locs hw I hR hF hS => ?_)
          have hW := hW.sI (k := 29) (by decide) (tn a1) ((mI σ 29 (tn a1)) + (nI (tn a2)))
          refine lv_aload_n hx hb dX8_letter_111 rfl (lv_at hl 3 rfl) ?_
          refine xget (C := RX8) (T := TX8) (N := 37) 29 hx hb hts hin8 hown I hR.1 rfl (by decide) (List.mem_of_getElem? (i := 3) rfl) rfl rfl dX8_letter_112 ?_
          refine lv_iload_n hx hb dX8_letter_115 rfl (lv_at hl 4 rfl) ?_
          refine xtop (y := .int (nI (tn a1))) (congrArg Value.int e_a1) ?_
          refine xiald (i := (tn a1)) (n := 60) hx hb I (hR.2.1 29 60 (by decide)) (by omega) (by decide) dX8_letter_116 ?_
          subst hG
          exact xriQ hx hb hr hlocks dX8_letter_117 I hS ⟨rfl, hR, hF⟩

def fX8_settle (σ : MT) (th : Int32) (a1 : Int32) (a2 : Int32) : MT × Int32 := (if (fX8_isClaim σ a1) = 0 then (σ, (nI 1)) else (if (mI σ 26 (tn a1)) = 0 then (if a2 = 0 then ((mSI (mSI σ 26 (tn a1) (nI 1)) 24 (tn a1) (mI σ 24 (tn a1))), (nI 0)) else ((mSI (mSI σ 26 (tn a1) (nI 1)) 24 (tn a1) (nI 0)), (nI 0))) else (σ, (nI 2))))
set_option maxHeartbeats 4000000 in
set_option maxRecDepth 100000 in
theorem mX8_settle (l : Launch) (lo : Nat) (D : va_G) (E : Nat → ClassId) (h : XW) (σ : MT) (th : Int32) (r : Nat) (ar : Nat → Nat) (hR : RM E σ th r ar h) (hW : MW σ) (a1 : Int32) (a2 : Int32) (za2 : a2 = 0 ∨ a2 = 1) : Met l yX8_settle wsX8_settle ({ frames := 2, cells := 0, slots := 0, locals := 43 } : Room) (xP lo D E h [.ref r, .int a1, .int a2]) (xQ lo D (fun v h' => v = none ∧ RM E (fX8_settle σ th a1 a2).1 (fX8_settle σ th a1 a2).2 r ar h' ∧ xF r ar h h')) 0 0 (xA lo) := by
  obtain ⟨G, hG⟩ : ∃ G, fX8_settle σ th a1 a2 = G := ⟨_, rfl⟩
  rw [hG]
  unfold fX8_settle at hG
  refine Met.ofW (cc := cX8_settle) (maxL := 4) (ret := none) (by decide) rfl ?_
  intro p e s m args below meth c s₁ B hml hv
  obtain ⟨rfl, I⟩ := hv
  have hx := B.exec
  have hb := B.bytes
  have hr := B.returns
  have hts := atoms_spec (ws := wsX8_settle) B.pre
  have hown : s.vm.findClass RX8 = some m.cls := findClass_of_methodNamed B.named
  have hlocks := B.notSynchronized
  have hl := lv_entry ([.ref r, .int a1, .int a2] : List Value) (n := 4) (Nat.le_of_ble_eq_true rfl)
  rw [lg_entry_eq]
  generalize (lg_sl ([.ref r, .int a1, .int a2] : List Value) ++ List.replicate (4 - (lg_sl ([.ref r, .int a1, .int a2] : List Value)).length) Slot.unset).toArray = ls at hl ⊢
  have hl : lv_has ls 4 [(0, .ref r), (1, .int a1), (2, .int a2)] := hl
  have hin8 : ∀ w ∈ u_ws RX8 TX8 37, w ∈ wsX8_settle := fun _ h => List.mem_cons_of_mem _ (List.mem_append_right _ (h))
  have hW0 := hW
  obtain ⟨⟨w1, w2, w3, w4, w5, w6, w7⟩, w9, w12, w21, w22, w23, w25, w31, z26, z27, z28, z36⟩ := id hW
  have hS : va_S (xA lo) s.heap s.heap [] := va_S.rf
  have hF : xF r ar h h := xF.rf
  refine lv_aload_n hx hb dX8_settle_0 rfl (lv_at hl 0 rfl) ?_
  refine lv_iload_n hx hb dX8_settle_1 rfl (lv_at hl 1 rfl) ?_
  refine xcvR (As := [.int a1]) (rest := []) (v := some (.int (fX8_isClaim σ a1))) ⟨hx, hb, hml, hown, hts⟩ (mX8_isClaim l lo D E h σ th r ar hR hW a1  ) (cwV 1 hts gX8_settle_X8_isClaim rfl rfl rfl (by decide +kernel) ⟨Nat.le_of_ble_eq_true rfl, Nat.le_of_ble_eq_true rfl⟩) I hR.1 rfl rfl hl.1 rfl (Nat.le_of_ble_eq_true rfl) dX8_settle_2 ⟨Nat.le_of_ble_eq_true rfl, Nat.le_of_ble_eq_true rfl⟩ ?_
  refine W.eq (g2 := F0 m 5 ls [.int (fX8_isClaim σ a1)]) rfl ?_
  refine lv_istore_n (lv' := [(3, .int (fX8_isClaim σ a1)), (0, .ref r), (1, .int a1), (2, .int a2)]) hx hb dX8_settle_5 rfl hl (by decide) rfl (fun ls hl => ?_)
  refine lv_aload_n hx hb dX8_settle_6 rfl (lv_at hl 1 rfl) ?_
  refine lv_iload_n hx hb dX8_settle_7 rfl (lv_at hl 0 rfl) ?_
  refine lv_if_ne (tgt := 15) hx hb dX8_settle_8 (by decide) (fun c_8 => ?_) (fun c_8 => ?_)
  · skip
    rw [if_neg c_8] at hG
    obtain ⟨e_a1, l_a1⟩ := ok_isClaim hW c_8
    refine lv_aload_n hx hb dX8_settle_15 rfl (lv_at hl 1 rfl) ?_
    refine xget (C := RX8) (T := TX8) (N := 37) 26 hx hb hts hin8 hown I hR.1 rfl (by decide) (List.mem_of_getElem? (i := 1) rfl) rfl rfl dX8_settle_16 ?_
    refine lv_iload_n hx hb dX8_settle_19 rfl (lv_at hl 2 rfl) ?_
    refine xtop (y := .int (nI (tn a1))) (congrArg Value.int e_a1) ?_
    refine xzald (i := (tn a1)) (n := 60) hx hb I (hR.2.2.2.2.1 26 60 (by decide)) (by omega) (by decide) dX8_settle_20 ?_
    refine lv_if_eq (tgt := 28) hx hb dX8_settle_21 (by decide) (fun c_21 => ?_) (fun c_21 => ?_)
    · skip
      rw [if_pos c_21] at hG
      refine lv_iconst (v := (nI 0)) hx hb dX8_settle_28 (by decide) ?_
      refine xputM 0 hx hb hts hin8 hown I hS hR hF (by decide) (List.mem_of_getElem? (i := 2) rfl) rfl rfl rfl rfl rfl (hR.putTh _) dX8_settle_29 (fun H locs hw I hR hF hS => ?_)
      refine lv_aload_n hx hb dX8_settle_32 rfl (lv_at hl 1 rfl) ?_
      refine xget (C := RX8) (T := TX8) (N := 37) 0 hx hb hts hin8 hown I hR.1 rfl (by decide) (List.mem_of_getElem? (i := 2) rfl) rfl rfl dX8_settle_33 ?_
      refine lv_if_ne (tgt := 66) hx hb dX8_settle_36 (by decide) (fun q => absurd (by decide) q) (fun _ => ?_)
      refine lv_aload_n hx hb dX8_settle_39 rfl (lv_at hl 1 rfl) ?_
      refine xget (C := RX8) (T := TX8) (N := 37) 26 hx hb hts hin8 hown I hR.1 rfl (by decide) (List.mem_of_getElem? (i := 1) rfl) rfl rfl dX8_settle_40 ?_
      refine lv_iload_n hx hb dX8_settle_43 rfl (lv_at hl 2 rfl) ?_
      refine xtop (y := .int (nI (tn a1))) (congrArg Value.int e_a1) ?_
      refine lv_iconst (v := (nI 1)) hx hb dX8_settle_44 (by decide) ?_
      refine xzM (i := (tn a1)) (n := 60) 26 hx hb I hS hR hF (by decide) (by omega) (by decide) dX8_settle_45 (fun H locs hw I hR hF hS => ?_)
      have hR : RM E (mSI σ 26 (tn a1) (nI 1)) (nI 0) r ar hw := hR
      have hW := hW.sZ 26 (tn a1) (nI 1) (Or.inr rfl)
      refine lv_aload_n hx hb dX8_settle_46 rfl (lv_at hl 1 rfl) ?_
      refine xget (C := RX8) (T := TX8) (N := 37) 24 hx hb hts hin8 hown I hR.1 rfl (by decide) (List.mem_of_getElem? (i := 3) rfl) rfl rfl dX8_settle_47 ?_
      refine lv_iload_n hx hb dX8_settle_50 rfl (lv_at hl 2 rfl) ?_
      refine xtop (y := .int (nI (tn a1))) (congrArg Value.int e_a1) ?_
      refine lv_iload_n hx hb dX8_settle_51 rfl (lv_at hl 3 rfl) ?_
      refine lv_if_eq (tgt := 59) hx hb dX8_settle_52 (by decide) (fun c_52 => ?_) (fun c_52 => ?_)
      · skip
        rw [if_pos c_52] at hG
        refine lv_aload_n hx hb dX8_settle_59 rfl (lv_at hl 1 rfl) ?_
        refine xget (C := RX8) (T := TX8) (N := 37) 24 hx hb hts hin8 hown I hR.1 rfl (by decide) (List.mem_of_getElem? (i := 3) rfl) rfl rfl dX8_settle_60 ?_
        refine lv_iload_n hx hb dX8_settle_63 rfl (lv_at hl 2 rfl) ?_
        refine xtop (y := .int (nI (tn a1))) (congrArg Value.int e_a1) ?_
        refine xiald (i := (tn a1)) (n := 60) hx hb I (hR.2.1 24 60 (by decide)) (by omega) (by decide) dX8_settle_64 ?_
        refine W.eq (g2 := F0 m 65 ls [.int (mI σ 24 (tn a1)), .int (nI (tn a1)), .ref (ar 24)]) rfl ?_
        refine xiM (i := (tn a1)) (n := 60) 24 hx hb I hS hR hF (by decide) (by omega) (by decide) dX8_settle_65 (fun H locs hw I hR hF hS => ?_)
        have hW := hW.sI (k := 24) (by decide) (tn a1) (mI σ 24 (tn a1))
        subst hG
        exact xrvQ hx hb hr hlocks dX8_settle_66 I hS ⟨rfl, hR, hF⟩
      · skip
        rw [if_neg c_52] at hG
        refine lv_iconst (v := (nI 0)) hx hb dX8_settle_55 (by decide) ?_
        refine lv_goto (tgt := 65) hx hb dX8_settle_56 (by decide) ?_
        refine xiM (i := (tn a1)) (n := 60) 24 hx hb I hS hR hF (by decide) (by omega) (by decide) dX8_settle_65 (fun H locs hw I hR hF hS => ?_)
        have hW := hW.sI (k := 24) (by decide) (tn a1) (nI 0)
        subst hG
        exact xrvQ hx hb hr hlocks dX8_settle_66 I hS ⟨rfl, hR, hF⟩
    · skip
      rw [if_neg c_21] at hG
      refine lv_iconst (v := (nI 2)) hx hb dX8_settle_24 (by decide) ?_
      refine lv_goto (tgt := 29) hx hb dX8_settle_25 (by decide) ?_
      refine xputM 0 hx hb hts hin8 hown I hS hR hF (by decide) (List.mem_of_getElem? (i := 2) rfl) rfl rfl rfl rfl rfl (hR.putTh _) dX8_settle_29 (fun H locs hw I hR hF hS => ?_)
      refine lv_aload_n hx hb dX8_settle_32 rfl (lv_at hl 1 rfl) ?_
      refine xget (C := RX8) (T := TX8) (N := 37) 0 hx hb hts hin8 hown I hR.1 rfl (by decide) (List.mem_of_getElem? (i := 2) rfl) rfl rfl dX8_settle_33 ?_
      refine lv_if_ne (tgt := 66) hx hb dX8_settle_36 (by decide) (fun _ => ?_) (fun q => absurd q (by decide))
      subst hG
      exact xrvQ hx hb hr hlocks dX8_settle_66 I hS ⟨rfl, hR, hF⟩
  · skip
    rw [if_pos c_8] at hG
    refine lv_iconst (v := (nI 1)) hx hb dX8_settle_11 (by decide) ?_
    refine lv_goto (tgt := 29) hx hb dX8_settle_12 (by decide) ?_
    refine xputM 0 hx hb hts hin8 hown I hS hR hF (by decide) (List.mem_of_getElem? (i := 2) rfl) rfl rfl rfl rfl rfl (hR.putTh _) dX8_settle_29 (fun H locs hw I hR hF hS => ?_)
    refine lv_aload_n hx hb dX8_settle_32 rfl (lv_at hl 1 rfl) ?_
    refine xget (C := RX8) (T := TX8) (N := 37) 0 hx hb hts hin8 hown I hR.1 rfl (by decide) (List.mem_of_getElem? (i := 2) rfl) rfl rfl dX8_settle_33 ?_
    refine lv_if_ne (tgt := 66) hx hb dX8_settle_36 (by decide) (fun _ => ?_) (fun q => absurd q (by decide))
    subst hG
    exact xrvQ hx hb hr hlocks dX8_settle_66 I hS ⟨rfl, hR, hF⟩

def fX8_broken (σ : MT) (th : Int32) (a1 : Int32) : MT × Int32 := (if (fX8_isClaim σ a1) = 0 then (σ, (nI 1)) else (if (mI σ 26 (tn a1)) = 0 then (if (mI σ 27 (tn a1)) = 0 then ((mSI σ 27 (tn a1) (nI 1)), (nI 0)) else (σ, (nI 2))) else (σ, (nI 2))))
set_option maxHeartbeats 4000000 in
set_option maxRecDepth 100000 in
theorem mX8_broken (l : Launch) (lo : Nat) (D : va_G) (E : Nat → ClassId) (h : XW) (σ : MT) (th : Int32) (r : Nat) (ar : Nat → Nat) (hR : RM E σ th r ar h) (hW : MW σ) (a1 : Int32) : Met l yX8_broken wsX8_broken ({ frames := 2, cells := 0, slots := 0, locals := 43 } : Room) (xP lo D E h [.ref r, .int a1]) (xQ lo D (fun v h' => v = none ∧ RM E (fX8_broken σ th a1).1 (fX8_broken σ th a1).2 r ar h' ∧ xF r ar h h')) 0 0 (xA lo) := by
  obtain ⟨G, hG⟩ : ∃ G, fX8_broken σ th a1 = G := ⟨_, rfl⟩
  rw [hG]
  unfold fX8_broken at hG
  refine Met.ofW (cc := cX8_broken) (maxL := 3) (ret := none) (by decide) rfl ?_
  intro p e s m args below meth c s₁ B hml hv
  obtain ⟨rfl, I⟩ := hv
  have hx := B.exec
  have hb := B.bytes
  have hr := B.returns
  have hts := atoms_spec (ws := wsX8_broken) B.pre
  have hown : s.vm.findClass RX8 = some m.cls := findClass_of_methodNamed B.named
  have hlocks := B.notSynchronized
  have hl := lv_entry ([.ref r, .int a1] : List Value) (n := 3) (Nat.le_of_ble_eq_true rfl)
  rw [lg_entry_eq]
  generalize (lg_sl ([.ref r, .int a1] : List Value) ++ List.replicate (3 - (lg_sl ([.ref r, .int a1] : List Value)).length) Slot.unset).toArray = ls at hl ⊢
  have hl : lv_has ls 3 [(0, .ref r), (1, .int a1)] := hl
  have hin8 : ∀ w ∈ u_ws RX8 TX8 37, w ∈ wsX8_broken := fun _ h => List.mem_cons_of_mem _ (List.mem_append_right _ (h))
  have hW0 := hW
  obtain ⟨⟨w1, w2, w3, w4, w5, w6, w7⟩, w9, w12, w21, w22, w23, w25, w31, z26, z27, z28, z36⟩ := id hW
  have hS : va_S (xA lo) s.heap s.heap [] := va_S.rf
  have hF : xF r ar h h := xF.rf
  refine lv_aload_n hx hb dX8_broken_0 rfl (lv_at hl 0 rfl) ?_
  refine lv_iload_n hx hb dX8_broken_1 rfl (lv_at hl 1 rfl) ?_
  refine xcvR (As := [.int a1]) (rest := []) (v := some (.int (fX8_isClaim σ a1))) ⟨hx, hb, hml, hown, hts⟩ (mX8_isClaim l lo D E h σ th r ar hR hW a1  ) (cwV 1 hts gX8_broken_X8_isClaim rfl rfl rfl (by decide +kernel) ⟨Nat.le_of_ble_eq_true rfl, Nat.le_of_ble_eq_true rfl⟩) I hR.1 rfl rfl hl.1 rfl (Nat.le_of_ble_eq_true rfl) dX8_broken_2 ⟨Nat.le_of_ble_eq_true rfl, Nat.le_of_ble_eq_true rfl⟩ ?_
  refine W.eq (g2 := F0 m 5 ls [.int (fX8_isClaim σ a1)]) rfl ?_
  refine lv_istore_n (lv' := [(2, .int (fX8_isClaim σ a1)), (0, .ref r), (1, .int a1)]) hx hb dX8_broken_5 rfl hl (by decide) rfl (fun ls hl => ?_)
  refine lv_aload_n hx hb dX8_broken_6 rfl (lv_at hl 1 rfl) ?_
  refine lv_iload_n hx hb dX8_broken_7 rfl (lv_at hl 0 rfl) ?_
  refine lv_if_ne (tgt := 15) hx hb dX8_broken_8 (by decide) (fun c_8 => ?_) (fun c_8 => ?_)
  · skip
    rw [if_neg c_8] at hG
    obtain ⟨e_a1, l_a1⟩ := ok_isClaim hW c_8
    refine lv_aload_n hx hb dX8_broken_15 rfl (lv_at hl 1 rfl) ?_
    refine xget (C := RX8) (T := TX8) (N := 37) 26 hx hb hts hin8 hown I hR.1 rfl (by decide) (List.mem_of_getElem? (i := 1) rfl) rfl rfl dX8_broken_16 ?_
    refine lv_iload_n hx hb dX8_broken_19 rfl (lv_at hl 2 rfl) ?_
    refine xtop (y := .int (nI (tn a1))) (congrArg Value.int e_a1) ?_
    refine xzald (i := (tn a1)) (n := 60) hx hb I (hR.2.2.2.2.1 26 60 (by decide)) (by omega) (by decide) dX8_broken_20 ?_
    refine lv_if_ne (tgt := 33) hx hb dX8_broken_21 (by decide) (fun c_21 => ?_) (fun c_21 => ?_)
    · skip
      rw [if_neg c_21] at hG
      refine lv_iconst (v := (nI 2)) hx hb dX8_broken_33 (by decide) ?_
      refine lv_goto (tgt := 38) hx hb dX8_broken_34 (by decide) ?_
      refine xputM 0 hx hb hts hin8 hown I hS hR hF (by decide) (List.mem_of_getElem? (i := 3) rfl) rfl rfl rfl rfl rfl (hR.putTh _) dX8_broken_38 (fun H locs hw I hR hF hS => ?_)
      refine lv_aload_n hx hb dX8_broken_41 rfl (lv_at hl 1 rfl) ?_
      refine xget (C := RX8) (T := TX8) (N := 37) 0 hx hb hts hin8 hown I hR.1 rfl (by decide) (List.mem_of_getElem? (i := 3) rfl) rfl rfl dX8_broken_42 ?_
      refine lv_if_ne (tgt := 55) hx hb dX8_broken_45 (by decide) (fun _ => ?_) (fun q => absurd q (by decide))
      subst hG
      exact xrvQ hx hb hr hlocks dX8_broken_55 I hS ⟨rfl, hR, hF⟩
    · skip
      rw [if_pos c_21] at hG
      refine lv_aload_n hx hb dX8_broken_24 rfl (lv_at hl 1 rfl) ?_
      refine xget (C := RX8) (T := TX8) (N := 37) 27 hx hb hts hin8 hown I hR.1 rfl (by decide) (List.mem_of_getElem? (i := 2) rfl) rfl rfl dX8_broken_25 ?_
      refine lv_iload_n hx hb dX8_broken_28 rfl (lv_at hl 2 rfl) ?_
      refine xtop (y := .int (nI (tn a1))) (congrArg Value.int e_a1) ?_
      refine xzald (i := (tn a1)) (n := 60) hx hb I (hR.2.2.2.2.1 27 60 (by decide)) (by omega) (by decide) dX8_broken_29 ?_
      refine lv_if_eq (tgt := 37) hx hb dX8_broken_30 (by decide) (fun c_30 => ?_) (fun c_30 => ?_)
      · skip
        rw [if_pos c_30] at hG
        refine lv_iconst (v := (nI 0)) hx hb dX8_broken_37 (by decide) ?_
        refine xputM 0 hx hb hts hin8 hown I hS hR hF (by decide) (List.mem_of_getElem? (i := 3) rfl) rfl rfl rfl rfl rfl (hR.putTh _) dX8_broken_38 (fun H locs hw I hR hF hS => ?_)
        refine lv_aload_n hx hb dX8_broken_41 rfl (lv_at hl 1 rfl) ?_
        refine xget (C := RX8) (T := TX8) (N := 37) 0 hx hb hts hin8 hown I hR.1 rfl (by decide) (List.mem_of_getElem? (i := 3) rfl) rfl rfl dX8_broken_42 ?_
        refine lv_if_ne (tgt := 55) hx hb dX8_broken_45 (by decide) (fun q => absurd (by decide) q) (fun _ => ?_)
        refine lv_aload_n hx hb dX8_broken_48 rfl (lv_at hl 1 rfl) ?_
        refine xget (C := RX8) (T := TX8) (N := 37) 27 hx hb hts hin8 hown I hR.1 rfl (by decide) (List.mem_of_getElem? (i := 2) rfl) rfl rfl dX8_broken_49 ?_
        refine lv_iload_n hx hb dX8_broken_52 rfl (lv_at hl 2 rfl) ?_
        refine xtop (y := .int (nI (tn a1))) (congrArg Value.int e_a1) ?_
        refine lv_iconst (v := (nI 1)) hx hb dX8_broken_53 (by decide) ?_
        refine xzM (i := (tn a1)) (n := 60) 27 hx hb I hS hR hF (by decide) (by omega) (by decide) dX8_broken_54 (fun H locs hw I hR hF hS => ?_)
        have hR : RM E (mSI σ 27 (tn a1) (nI 1)) (nI 0) r ar hw := hR
        have hW := hW.sZ 27 (tn a1) (nI 1) (Or.inr rfl)
        subst hG
        exact xrvQ hx hb hr hlocks dX8_broken_55 I hS ⟨rfl, hR, hF⟩
      · skip
        rw [if_neg c_30] at hG
        refine lv_iconst (v := (nI 2)) hx hb dX8_broken_33 (by decide) ?_
        refine lv_goto (tgt := 38) hx hb dX8_broken_34 (by decide) ?_
        refine xputM 0 hx hb hts hin8 hown I hS hR hF (by decide) (List.mem_of_getElem? (i := 3) rfl) rfl rfl rfl rfl rfl (hR.putTh _) dX8_broken_38 (fun H locs hw I hR hF hS => ?_)
        refine lv_aload_n hx hb dX8_broken_41 rfl (lv_at hl 1 rfl) ?_
        refine xget (C := RX8) (T := TX8) (N := 37) 0 hx hb hts hin8 hown I hR.1 rfl (by decide) (List.mem_of_getElem? (i := 3) rfl) rfl rfl dX8_broken_42 ?_
        refine lv_if_ne (tgt := 55) hx hb dX8_broken_45 (by decide) (fun _ => ?_) (fun q => absurd q (by decide))
        subst hG
        exact xrvQ hx hb hr hlocks dX8_broken_55 I hS ⟨rfl, hR, hF⟩
  · skip
    rw [if_pos c_8] at hG
    refine lv_iconst (v := (nI 1)) hx hb dX8_broken_11 (by decide) ?_
    refine lv_goto (tgt := 38) hx hb dX8_broken_12 (by decide) ?_
    refine xputM 0 hx hb hts hin8 hown I hS hR hF (by decide) (List.mem_of_getElem? (i := 3) rfl) rfl rfl rfl rfl rfl (hR.putTh _) dX8_broken_38 (fun H locs hw I hR hF hS => ?_)
    refine lv_aload_n hx hb dX8_broken_41 rfl (lv_at hl 1 rfl) ?_
    refine xget (C := RX8) (T := TX8) (N := 37) 0 hx hb hts hin8 hown I hR.1 rfl (by decide) (List.mem_of_getElem? (i := 3) rfl) rfl rfl dX8_broken_42 ?_
    refine lv_if_ne (tgt := 55) hx hb dX8_broken_45 (by decide) (fun _ => ?_) (fun q => absurd q (by decide))
    subst hG
    exact xrvQ hx hb hr hlocks dX8_broken_55 I hS ⟨rfl, hR, hF⟩

def fX8_ofClaim (σ : MT) (th : Int32) (a1 : Int32) (a2 : Int32) : Int64 × MT × Int32 := (if (fX8_isClaim σ a1) = 0 then ((0 : Int64), σ, (nI 1)) else (if (fX8_isIn a2 (nI 0) (nI 5)) = 0 then ((0 : Int64), σ, (nI 2)) else (if tn a2 = 0 then ((mI σ 24 (tn a1)).toInt64, σ, (nI 0)) else (if tn a2 = 1 then ((nI (mK σ 25 (tn a1))).toInt64, σ, (nI 0)) else (if tn a2 = 2 then (if (fX8_isCovered σ (tn a1)) = 0 then ((0 : Int64), σ, (nI 0)) else ((1 : Int64), σ, (nI 0))) else (if tn a2 = 3 then (if (mI σ 26 (tn a1)) = 0 then ((0 : Int64), σ, (nI 0)) else ((1 : Int64), σ, (nI 0))) else (if tn a2 = 4 then ((mI σ 29 (tn a1)).toInt64, σ, (nI 0)) else ((fX8_counts σ (tn a1)).toInt64, σ, (nI 0)))))))))
set_option maxHeartbeats 4000000 in
set_option maxRecDepth 100000 in
theorem mX8_ofClaim (l : Launch) (lo : Nat) (D : va_G) (E : Nat → ClassId) (h : XW) (σ : MT) (th : Int32) (r : Nat) (ar : Nat → Nat) (hR : RM E σ th r ar h) (hW : MW σ) (a1 : Int32) (a2 : Int32) : Met l yX8_ofClaim wsX8_ofClaim ({ frames := 2, cells := 0, slots := 0, locals := 47 } : Room) (xP lo D E h [.ref r, .int a1, .int a2]) (xQ lo D (fun v h' => v = some (.long (fX8_ofClaim σ th a1 a2).1) ∧ RM E (fX8_ofClaim σ th a1 a2).2.1 (fX8_ofClaim σ th a1 a2).2.2 r ar h' ∧ xF r ar h h')) 0 0 (xA lo) := by
  obtain ⟨G, hG⟩ : ∃ G, fX8_ofClaim σ th a1 a2 = G := ⟨_, rfl⟩
  rw [hG]
  unfold fX8_ofClaim at hG
  refine Met.ofW (cc := cX8_ofClaim) (maxL := 3) (ret := (some .long)) (by decide) rfl ?_
  intro p e s m args below meth c s₁ B hml hv
  obtain ⟨rfl, I⟩ := hv
  have hx := B.exec
  have hb := B.bytes
  have hr := B.returns
  have hts := atoms_spec (ws := wsX8_ofClaim) B.pre
  have hown : s.vm.findClass RX8 = some m.cls := findClass_of_methodNamed B.named
  have hlocks := B.notSynchronized
  have hl := lv_entry ([.ref r, .int a1, .int a2] : List Value) (n := 3) (Nat.le_of_ble_eq_true rfl)
  rw [lg_entry_eq]
  generalize (lg_sl ([.ref r, .int a1, .int a2] : List Value) ++ List.replicate (3 - (lg_sl ([.ref r, .int a1, .int a2] : List Value)).length) Slot.unset).toArray = ls at hl ⊢
  have hl : lv_has ls 3 [(0, .ref r), (1, .int a1), (2, .int a2)] := hl
  have hin8 : ∀ w ∈ u_ws RX8 TX8 37, w ∈ wsX8_ofClaim := fun _ h => List.mem_cons_of_mem _ (List.mem_append_right _ (h))
  have hW0 := hW
  obtain ⟨⟨w1, w2, w3, w4, w5, w6, w7⟩, w9, w12, w21, w22, w23, w25, w31, z26, z27, z28, z36⟩ := id hW
  have hS : va_S (xA lo) s.heap s.heap [] := va_S.rf
  have hF : xF r ar h h := xF.rf
  refine lv_aload_n hx hb dX8_ofClaim_0 rfl (lv_at hl 0 rfl) ?_
  refine lv_aload_n hx hb dX8_ofClaim_1 rfl (lv_at hl 0 rfl) ?_
  refine lv_iload_n hx hb dX8_ofClaim_2 rfl (lv_at hl 1 rfl) ?_
  refine xcvR (As := [.int a1]) (rest := [.ref r]) (v := some (.int (fX8_isClaim σ a1))) ⟨hx, hb, hml, hown, hts⟩ (mX8_isClaim l lo D E h σ th r ar hR hW a1  ) (cwV 1 hts gX8_ofClaim_X8_isClaim rfl rfl rfl (by decide +kernel) ⟨Nat.le_of_ble_eq_true rfl, Nat.le_of_ble_eq_true rfl⟩) I hR.1 rfl rfl hl.1 rfl (Nat.le_of_ble_eq_true rfl) dX8_ofClaim_3 ⟨Nat.le_of_ble_eq_true rfl, Nat.le_of_ble_eq_true rfl⟩ ?_
  refine W.eq (g2 := F0 m 6 ls [.int (fX8_isClaim σ a1), .ref r]) rfl ?_
  refine lv_if_ne (tgt := 13) hx hb dX8_ofClaim_6 (by decide) (fun c_6 => ?_) (fun c_6 => ?_)
  · skip
    rw [if_neg c_6] at hG
    obtain ⟨e_a1, l_a1⟩ := ok_isClaim hW c_6
    refine lv_iload_n hx hb dX8_ofClaim_13 rfl (lv_at hl 2 rfl) ?_
    refine lv_iconst (v := (nI 0)) hx hb dX8_ofClaim_14 (by decide) ?_
    refine lv_iconst (v := (nI 5)) hx hb dX8_ofClaim_15 (by decide) ?_
    refine xcsR (As := [.int a2, .int (nI 0), .int (nI 5)]) (rest := [.ref r]) (v := some (.int (fX8_isIn a2 (nI 0) (nI 5)))) ⟨hx, hb, hml, hown, hts⟩ (mX8_isIn l lo D E h  a2 (nI 0) (nI 5)  ) (va_cwS 3 hts gX8_ofClaim_X8_isIn rfl rfl rfl (by decide +kernel) ⟨Nat.le_of_ble_eq_true rfl, Nat.le_of_ble_eq_true rfl⟩) I rfl hl.1 rfl (Nat.le_of_ble_eq_true rfl) dX8_ofClaim_16 ⟨Nat.le_of_ble_eq_true rfl, Nat.le_of_ble_eq_true rfl⟩ ?_
    refine W.eq (g2 := F0 m 19 ls [.int (fX8_isIn a2 (nI 0) (nI 5)), .ref r]) rfl ?_
    refine lv_if_ne (tgt := 26) hx hb dX8_ofClaim_19 (by decide) (fun c_19 => ?_) (fun c_19 => ?_)
    · skip
      rw [if_neg c_19] at hG
      obtain ⟨e_a2, l_a2⟩ := ok_isIn (by decide) c_19
      refine lv_iconst (v := (nI 0)) hx hb dX8_ofClaim_26 (by decide) ?_
      refine xputM 0 hx hb hts hin8 hown I hS hR hF (by decide) (List.mem_of_getElem? (i := 1) rfl) rfl rfl rfl rfl rfl (hR.putTh _) dX8_ofClaim_27 (fun H locs hw I hR hF hS => ?_)
      refine lv_aload_n hx hb dX8_ofClaim_30 rfl (lv_at hl 0 rfl) ?_
      refine xget (C := RX8) (T := TX8) (N := 37) 0 hx hb hts hin8 hown I hR.1 rfl (by decide) (List.mem_of_getElem? (i := 1) rfl) rfl rfl dX8_ofClaim_31 ?_
      refine lv_if_le (tgt := 39) hx hb dX8_ofClaim_34 (by decide) (fun _ => ?_) (fun q => absurd (by decide) q)
      refine lv_iload_n hx hb dX8_ofClaim_39 rfl (lv_at hl 2 rfl) ?_
      refine xtop (y := .int (nI (tn a2))) (congrArg Value.int e_a2) ?_
      by_cases t40_0 : tn a2 = 0
      · rw [if_pos t40_0] at hG
        refine xtop (y := .int (nI 0)) (by rw [t40_0]) ?_
        refine lv_tableIn (off := 36) (tgt := 76) hx hb dX8_ofClaim_40 (by decide) (by decide) (by decide) (by decide) ?_
        refine lv_aload_n hx hb dX8_ofClaim_76 rfl (lv_at hl 0 rfl) ?_
        refine xget (C := RX8) (T := TX8) (N := 37) 24 hx hb hts hin8 hown I hR.1 rfl (by decide) (List.mem_of_getElem? (i := 2) rfl) rfl rfl dX8_ofClaim_77 ?_
        refine lv_iload_n hx hb dX8_ofClaim_80 rfl (lv_at hl 1 rfl) ?_
        refine xtop (y := .int (nI (tn a1))) (congrArg Value.int e_a1) ?_
        refine xiald (i := (tn a1)) (n := 60) hx hb I (hR.2.1 24 60 (by decide)) (by omega) (by decide) dX8_ofClaim_81 ?_
        refine lv_i2l (v := (mI σ 24 (tn a1)).toInt64) hx hb dX8_ofClaim_82 rfl ?_
        subst hG
        exact xrlQ hx hb hr hlocks dX8_ofClaim_83 I hS ⟨rfl, hR, hF⟩
      rw [if_neg t40_0] at hG
      by_cases t40_1 : tn a2 = 1
      · rw [if_pos t40_1] at hG
        refine xtop (y := .int (nI 1)) (by rw [t40_1]) ?_
        refine lv_tableIn (off := 44) (tgt := 84) hx hb dX8_ofClaim_40 (by decide) (by decide) (by decide) (by decide) ?_
        refine lv_aload_n hx hb dX8_ofClaim_84 rfl (lv_at hl 0 rfl) ?_
        refine xget (C := RX8) (T := TX8) (N := 37) 25 hx hb hts hin8 hown I hR.1 rfl (by decide) (List.mem_of_getElem? (i := 3) rfl) rfl rfl dX8_ofClaim_85 ?_
        refine lv_iload_n hx hb dX8_ofClaim_88 rfl (lv_at hl 1 rfl) ?_
        refine xtop (y := .int (nI (tn a1))) (congrArg Value.int e_a1) ?_
        refine xiald (i := (tn a1)) (n := 60) hx hb I (hR.2.2.1 25 60 (by decide)) (by omega) (by decide) dX8_ofClaim_89 ?_
        have b89 := w25 (tn a1) (by omega)
        refine lv_i2l (v := (nI (mK σ 25 (tn a1))).toInt64) hx hb dX8_ofClaim_90 rfl ?_
        subst hG
        exact xrlQ hx hb hr hlocks dX8_ofClaim_91 I hS ⟨rfl, hR, hF⟩
      rw [if_neg t40_1] at hG
      by_cases t40_2 : tn a2 = 2
      · rw [if_pos t40_2] at hG
        refine xtop (y := .int (nI 2)) (by rw [t40_2]) ?_
        refine lv_tableIn (off := 52) (tgt := 92) hx hb dX8_ofClaim_40 (by decide) (by decide) (by decide) (by decide) ?_
        refine lv_aload_n hx hb dX8_ofClaim_92 rfl (lv_at hl 0 rfl) ?_
        refine lv_iload_n hx hb dX8_ofClaim_93 rfl (lv_at hl 1 rfl) ?_
        refine xtop (y := .int (nI (tn a1))) (congrArg Value.int e_a1) ?_
        refine xcvR (As := [.int (nI (tn a1))]) (rest := []) (v := some (.int (fX8_isCovered σ (tn a1)))) ⟨hx, hb, hml, hown, hts⟩ (mX8_isCovered l lo D E hw σ (nI 0) r ar hR hW (tn a1)  (by first | assumption | omega)) (cwV 1 hts gX8_ofClaim_X8_isCovered rfl rfl rfl (by decide +kernel) ⟨Nat.le_of_ble_eq_true rfl, Nat.le_of_ble_eq_true rfl⟩) I hR.1 rfl rfl hl.1 rfl (Nat.le_of_ble_eq_true rfl) dX8_ofClaim_94 ⟨Nat.le_of_ble_eq_true rfl, Nat.le_of_ble_eq_true rfl⟩ ?_
        refine W.eq (g2 := F0 m 97 ls [.int (fX8_isCovered σ (tn a1))]) rfl ?_
        refine lv_if_eq (tgt := 104) hx hb dX8_ofClaim_97 (by decide) (fun c_97 => ?_) (fun c_97 => ?_)
        · skip
          rw [if_pos c_97] at hG
          refine lv_lconst (v := (0 : Int64)) hx hb dX8_ofClaim_104 rfl ?_
          subst hG
          exact xrlQ hx hb hr hlocks dX8_ofClaim_105 I hS ⟨rfl, hR, hF⟩
        · skip
          rw [if_neg c_97] at hG
          refine lv_lconst (v := (1 : Int64)) hx hb dX8_ofClaim_100 rfl ?_
          refine lv_goto (tgt := 105) hx hb dX8_ofClaim_101 (by decide) ?_
          subst hG
          exact xrlQ hx hb hr hlocks dX8_ofClaim_105 I hS ⟨rfl, hR, hF⟩
      rw [if_neg t40_2] at hG
      by_cases t40_3 : tn a2 = 3
      · rw [if_pos t40_3] at hG
        refine xtop (y := .int (nI 3)) (by rw [t40_3]) ?_
        refine lv_tableIn (off := 66) (tgt := 106) hx hb dX8_ofClaim_40 (by decide) (by decide) (by decide) (by decide) ?_
        refine lv_aload_n hx hb dX8_ofClaim_106 rfl (lv_at hl 0 rfl) ?_
        refine xget (C := RX8) (T := TX8) (N := 37) 26 hx hb hts hin8 hown I hR.1 rfl (by decide) (List.mem_of_getElem? (i := 4) rfl) rfl rfl dX8_ofClaim_107 ?_
        refine lv_iload_n hx hb dX8_ofClaim_110 rfl (lv_at hl 1 rfl) ?_
        refine xtop (y := .int (nI (tn a1))) (congrArg Value.int e_a1) ?_
        refine xzald (i := (tn a1)) (n := 60) hx hb I (hR.2.2.2.2.1 26 60 (by decide)) (by omega) (by decide) dX8_ofClaim_111 ?_
        refine lv_if_eq (tgt := 119) hx hb dX8_ofClaim_112 (by decide) (fun c_112 => ?_) (fun c_112 => ?_)
        · skip
          rw [if_pos c_112] at hG
          refine lv_lconst (v := (0 : Int64)) hx hb dX8_ofClaim_119 rfl ?_
          subst hG
          exact xrlQ hx hb hr hlocks dX8_ofClaim_120 I hS ⟨rfl, hR, hF⟩
        · skip
          rw [if_neg c_112] at hG
          refine lv_lconst (v := (1 : Int64)) hx hb dX8_ofClaim_115 rfl ?_
          refine lv_goto (tgt := 120) hx hb dX8_ofClaim_116 (by decide) ?_
          subst hG
          exact xrlQ hx hb hr hlocks dX8_ofClaim_120 I hS ⟨rfl, hR, hF⟩
      rw [if_neg t40_3] at hG
      by_cases t40_4 : tn a2 = 4
      · rw [if_pos t40_4] at hG
        refine xtop (y := .int (nI 4)) (by rw [t40_4]) ?_
        refine lv_tableIn (off := 81) (tgt := 121) hx hb dX8_ofClaim_40 (by decide) (by decide) (by decide) (by decide) ?_
        refine lv_aload_n hx hb dX8_ofClaim_121 rfl (lv_at hl 0 rfl) ?_
        refine xget (C := RX8) (T := TX8) (N := 37) 29 hx hb hts hin8 hown I hR.1 rfl (by decide) (List.mem_of_getElem? (i := 5) rfl) rfl rfl dX8_ofClaim_122 ?_
        refine lv_iload_n hx hb dX8_ofClaim_125 rfl (lv_at hl 1 rfl) ?_
        refine xtop (y := .int (nI (tn a1))) (congrArg Value.int e_a1) ?_
        refine xiald (i := (tn a1)) (n := 60) hx hb I (hR.2.1 29 60 (by decide)) (by omega) (by decide) dX8_ofClaim_126 ?_
        refine lv_i2l (v := (mI σ 29 (tn a1)).toInt64) hx hb dX8_ofClaim_127 rfl ?_
        subst hG
        exact xrlQ hx hb hr hlocks dX8_ofClaim_128 I hS ⟨rfl, hR, hF⟩
      rw [if_neg t40_4] at hG
      refine lv_tableOut (tgt := 129) hx hb dX8_ofClaim_40 (Or.inr (by rw [nI_toInt (by omega)]; omega)) (by decide) ?_
      refine lv_aload_n hx hb dX8_ofClaim_129 rfl (lv_at hl 0 rfl) ?_
      refine lv_iload_n hx hb dX8_ofClaim_130 rfl (lv_at hl 1 rfl) ?_
      refine xtop (y := .int (nI (tn a1))) (congrArg Value.int e_a1) ?_
      refine xcvR (As := [.int (nI (tn a1))]) (rest := []) (v := some (.int (fX8_counts σ (tn a1)))) ⟨hx, hb, hml, hown, hts⟩ (mX8_counts l lo D E hw σ (nI 0) r ar hR hW (tn a1)  (by first | assumption | omega)) (cwV 1 hts gX8_ofClaim_X8_counts rfl rfl rfl (by decide +kernel) ⟨Nat.le_of_ble_eq_true rfl, Nat.le_of_ble_eq_true rfl⟩) I hR.1 rfl rfl hl.1 rfl (Nat.le_of_ble_eq_true rfl) dX8_ofClaim_131 ⟨Nat.le_of_ble_eq_true rfl, Nat.le_of_ble_eq_true rfl⟩ ?_
      refine W.eq (g2 := F0 m 134 ls [.int (fX8_counts σ (tn a1))]) rfl ?_
      refine lv_i2l (v := (fX8_counts σ (tn a1)).toInt64) hx hb dX8_ofClaim_134 rfl ?_
      subst hG
      exact xrlQ hx hb hr hlocks dX8_ofClaim_135 I hS ⟨rfl, hR, hF⟩
    · skip
      rw [if_pos c_19] at hG
      refine lv_iconst (v := (nI 2)) hx hb dX8_ofClaim_22 (by decide) ?_
      refine lv_goto (tgt := 27) hx hb dX8_ofClaim_23 (by decide) ?_
      refine xputM 0 hx hb hts hin8 hown I hS hR hF (by decide) (List.mem_of_getElem? (i := 1) rfl) rfl rfl rfl rfl rfl (hR.putTh _) dX8_ofClaim_27 (fun H locs hw I hR hF hS => ?_)
      refine lv_aload_n hx hb dX8_ofClaim_30 rfl (lv_at hl 0 rfl) ?_
      refine xget (C := RX8) (T := TX8) (N := 37) 0 hx hb hts hin8 hown I hR.1 rfl (by decide) (List.mem_of_getElem? (i := 1) rfl) rfl rfl dX8_ofClaim_31 ?_
      refine lv_if_le (tgt := 39) hx hb dX8_ofClaim_34 (by decide) (fun q => absurd q (by decide)) (fun _ => ?_)
      refine lv_lconst (v := (0 : Int64)) hx hb dX8_ofClaim_37 rfl ?_
      subst hG
      exact xrlQ hx hb hr hlocks dX8_ofClaim_38 I hS ⟨rfl, hR, hF⟩
  · skip
    rw [if_pos c_6] at hG
    refine lv_iconst (v := (nI 1)) hx hb dX8_ofClaim_9 (by decide) ?_
    refine lv_goto (tgt := 27) hx hb dX8_ofClaim_10 (by decide) ?_
    refine xputM 0 hx hb hts hin8 hown I hS hR hF (by decide) (List.mem_of_getElem? (i := 1) rfl) rfl rfl rfl rfl rfl (hR.putTh _) dX8_ofClaim_27 (fun H locs hw I hR hF hS => ?_)
    refine lv_aload_n hx hb dX8_ofClaim_30 rfl (lv_at hl 0 rfl) ?_
    refine xget (C := RX8) (T := TX8) (N := 37) 0 hx hb hts hin8 hown I hR.1 rfl (by decide) (List.mem_of_getElem? (i := 1) rfl) rfl rfl dX8_ofClaim_31 ?_
    refine lv_if_le (tgt := 39) hx hb dX8_ofClaim_34 (by decide) (fun q => absurd q (by decide)) (fun _ => ?_)
    refine lv_lconst (v := (0 : Int64)) hx hb dX8_ofClaim_37 rfl ?_
    subst hG
    exact xrlQ hx hb hr hlocks dX8_ofClaim_38 I hS ⟨rfl, hR, hF⟩

def fX8_ofEvent_S50 (σ : MT) (th : Int32) (a1 : Int32) (a2 : Int32) (k50 : Nat) (a50_3 : Int32) : (Int32) := (if (nI (mK σ 25 k50)) = (nI (tn a1)) then (a50_3 + (nI 1)) else (a50_3 + (nI 0)))
def fX8_ofEvent_L50 (σ : MT) (th : Int32) (a1 : Int32) (a2 : Int32) : Nat → Nat → Int32 → Int64 × MT × Int32
  | 0, k50, a50_3 => (if (nI (tn a2)) = 0 then ((fX8_costOf σ (nI (tn a1))), σ, (nI 0)) else (if (nI (tn a2)) = (nI 1) then ((fX8_bears σ (tn a1)), σ, (nI 0)) else (if (nI (tn a2)) = (nI 2) then ((nI (mK σ 31 (tn a1))).toInt64, σ, (nI 0)) else (a50_3.toInt64, σ, (nI 0)))))
  | n50 + 1, k50, a50_3 => lseq (fX8_ofEvent_S50 σ th a1 a2 k50 a50_3) (fun q => fX8_ofEvent_L50 σ th a1 a2 n50 (k50 + 1) q)
def fX8_ofEvent (σ : MT) (th : Int32) (a1 : Int32) (a2 : Int32) : Int64 × MT × Int32 := (if (fX8_isIn a1 (nI 0) ((nI (mN σ 30)) - (nI 1))) = 0 then ((0 : Int64), σ, (nI 1)) else (if (fX8_isIn a2 (nI 0) (nI 3)) = 0 then ((0 : Int64), σ, (nI 2)) else (fX8_ofEvent_L50 σ th a1 a2 (mN σ 20) 0 (nI 0))))
set_option maxHeartbeats 4000000 in
set_option maxRecDepth 100000 in
theorem mX8_ofEvent (l : Launch) (lo : Nat) (D : va_G) (E : Nat → ClassId) (h : XW) (σ : MT) (th : Int32) (r : Nat) (ar : Nat → Nat) (hR : RM E σ th r ar h) (hW : MW σ) (a1 : Int32) (a2 : Int32) : Met l yX8_ofEvent wsX8_ofEvent ({ frames := 5, cells := 0, slots := 0, locals := 129 } : Room) (xP lo D E h [.ref r, .int a1, .int a2]) (xQ lo D (fun v h' => v = some (.long (fX8_ofEvent σ th a1 a2).1) ∧ RM E (fX8_ofEvent σ th a1 a2).2.1 (fX8_ofEvent σ th a1 a2).2.2 r ar h' ∧ xF r ar h h')) 0 0 (xA lo) := by
  obtain ⟨G, hG⟩ : ∃ G, fX8_ofEvent σ th a1 a2 = G := ⟨_, rfl⟩
  rw [hG]
  unfold fX8_ofEvent at hG
  refine Met.ofW (cc := cX8_ofEvent) (maxL := 5) (ret := (some .long)) (by decide) rfl ?_
  intro p e s m args below meth c s₁ B hml hv
  obtain ⟨rfl, I⟩ := hv
  have hx := B.exec
  have hb := B.bytes
  have hr := B.returns
  have hts := atoms_spec (ws := wsX8_ofEvent) B.pre
  have hown : s.vm.findClass RX8 = some m.cls := findClass_of_methodNamed B.named
  have hlocks := B.notSynchronized
  have hl := lv_entry ([.ref r, .int a1, .int a2] : List Value) (n := 5) (Nat.le_of_ble_eq_true rfl)
  rw [lg_entry_eq]
  generalize (lg_sl ([.ref r, .int a1, .int a2] : List Value) ++ List.replicate (5 - (lg_sl ([.ref r, .int a1, .int a2] : List Value)).length) Slot.unset).toArray = ls at hl ⊢
  have hl : lv_has ls 5 [(0, .ref r), (1, .int a1), (2, .int a2)] := hl
  have hin8 : ∀ w ∈ u_ws RX8 TX8 37, w ∈ wsX8_ofEvent := fun _ h => List.mem_cons_of_mem _ (List.mem_append_right _ (h))
  have hW0 := hW
  obtain ⟨⟨w1, w2, w3, w4, w5, w6, w7⟩, w9, w12, w21, w22, w23, w25, w31, z26, z27, z28, z36⟩ := id hW
  have hS : va_S (xA lo) s.heap s.heap [] := va_S.rf
  have hF : xF r ar h h := xF.rf
  refine lv_aload_n hx hb dX8_ofEvent_0 rfl (lv_at hl 0 rfl) ?_
  refine lv_iload_n hx hb dX8_ofEvent_1 rfl (lv_at hl 1 rfl) ?_
  refine lv_iconst (v := (nI 0)) hx hb dX8_ofEvent_2 (by decide) ?_
  refine lv_aload_n hx hb dX8_ofEvent_3 rfl (lv_at hl 0 rfl) ?_
  refine xget (C := RX8) (T := TX8) (N := 37) 30 hx hb hts hin8 hown I hR.1 rfl (by decide) (List.mem_of_getElem? (i := 1) rfl) rfl rfl dX8_ofEvent_4 ?_
  refine lv_iconst (v := (nI 1)) hx hb dX8_ofEvent_7 (by decide) ?_
  refine lv_isub hx hb dX8_ofEvent_8 ?_
  refine xcsR (As := [.int a1, .int (nI 0), .int ((nI (mN σ 30)) - (nI 1))]) (rest := [.ref r]) (v := some (.int (fX8_isIn a1 (nI 0) ((nI (mN σ 30)) - (nI 1))))) ⟨hx, hb, hml, hown, hts⟩ (mX8_isIn l lo D E h  a1 (nI 0) ((nI (mN σ 30)) - (nI 1))  ) (va_cwS 3 hts gX8_ofEvent_X8_isIn rfl rfl rfl (by decide +kernel) ⟨Nat.le_of_ble_eq_true rfl, Nat.le_of_ble_eq_true rfl⟩) I rfl hl.1 rfl (Nat.le_of_ble_eq_true rfl) dX8_ofEvent_9 ⟨Nat.le_of_ble_eq_true rfl, Nat.le_of_ble_eq_true rfl⟩ ?_
  refine W.eq (g2 := F0 m 12 ls [.int (fX8_isIn a1 (nI 0) ((nI (mN σ 30)) - (nI 1))), .ref r]) rfl ?_
  refine lv_if_ne (tgt := 19) hx hb dX8_ofEvent_12 (by decide) (fun c_12 => ?_) (fun c_12 => ?_)
  · skip
    rw [if_neg c_12] at hG
    obtain ⟨e_a1, l_a1⟩ := ok_isInP (by omega) c_12
    refine lv_iload_n hx hb dX8_ofEvent_19 rfl (lv_at hl 2 rfl) ?_
    refine lv_iconst (v := (nI 0)) hx hb dX8_ofEvent_20 (by decide) ?_
    refine lv_iconst (v := (nI 3)) hx hb dX8_ofEvent_21 (by decide) ?_
    refine xcsR (As := [.int a2, .int (nI 0), .int (nI 3)]) (rest := [.ref r]) (v := some (.int (fX8_isIn a2 (nI 0) (nI 3)))) ⟨hx, hb, hml, hown, hts⟩ (mX8_isIn l lo D E h  a2 (nI 0) (nI 3)  ) (va_cwS 3 hts gX8_ofEvent_X8_isIn rfl rfl rfl (by decide +kernel) ⟨Nat.le_of_ble_eq_true rfl, Nat.le_of_ble_eq_true rfl⟩) I rfl hl.1 rfl (Nat.le_of_ble_eq_true rfl) dX8_ofEvent_22 ⟨Nat.le_of_ble_eq_true rfl, Nat.le_of_ble_eq_true rfl⟩ ?_
    refine W.eq (g2 := F0 m 25 ls [.int (fX8_isIn a2 (nI 0) (nI 3)), .ref r]) rfl ?_
    refine lv_if_ne (tgt := 32) hx hb dX8_ofEvent_25 (by decide) (fun c_25 => ?_) (fun c_25 => ?_)
    · skip
      rw [if_neg c_25] at hG
      obtain ⟨e_a2, l_a2⟩ := ok_isIn (by decide) c_25
      refine lv_iconst (v := (nI 0)) hx hb dX8_ofEvent_32 (by decide) ?_
      refine xputM 0 hx hb hts hin8 hown I hS hR hF (by decide) (List.mem_of_getElem? (i := 2) rfl) rfl rfl rfl rfl rfl (hR.putTh _) dX8_ofEvent_33 (fun H locs hw I hR hF hS => ?_)
      refine lv_aload_n hx hb dX8_ofEvent_36 rfl (lv_at hl 0 rfl) ?_
      refine xget (C := RX8) (T := TX8) (N := 37) 0 hx hb hts hin8 hown I hR.1 rfl (by decide) (List.mem_of_getElem? (i := 2) rfl) rfl rfl dX8_ofEvent_37 ?_
      refine lv_if_le (tgt := 45) hx hb dX8_ofEvent_40 (by decide) (fun _ => ?_) (fun q => absurd (by decide) q)
      refine lv_iconst (v := (nI 0)) hx hb dX8_ofEvent_45 (by decide) ?_
      refine lv_istore_n (lv' := [(3, .int (nI 0)), (0, .ref r), (1, .int a1), (2, .int a2)]) hx hb dX8_ofEvent_46 rfl hl (by decide) rfl (fun ls hl => ?_)
      refine lv_iconst (v := (nI 0)) hx hb dX8_ofEvent_47 (by decide) ?_
      refine lv_istore (lv' := [(4, .int (nI 0)), (3, .int (nI 0)), (0, .ref r), (1, .int a1), (2, .int a2)]) hx hb dX8_ofEvent_48 hl (by decide) rfl (fun ls hl => ?_)
      have L50 : ∀ (n50 : Nat) (k50 : Nat) (a50_3 : Int32), k50 + n50 = mN σ 20 → fX8_ofEvent_L50 σ th a1 a2 n50 k50 a50_3 = G → ∀ ls : Array Slot, lv_has ls 5 [(0, .ref r), (1, .int a1), (2, .int a2), (3, .int a50_3), (4, .int (nI k50))] → W p l e (headSpec wsX8_ofEvent ({ frames := 5, cells := 0, slots := 0, locals := 129 } : Room)).room s m ([.ref r, .int a1, .int a2] : List Value).toArray below meth c H locs 0 0 (MQ below (xQ lo D (fun v h' => v = some (.long (G).1) ∧ RM E (G).2.1 (G).2.2 r ar h' ∧ xF r ar h h')) ([.ref r, .int a1, .int a2] : List Value).toArray s 0 0 (xA lo)) (F0 m 50 ls []) := by
        intro n50
        induction n50 with
        | zero =>
          intro k50 a50_3 hkn hG ls hl
          have hkN : k50 = mN σ 20 := by omega
          have hG : (if (nI (tn a2)) = 0 then ((fX8_costOf σ (nI (tn a1))), σ, (nI 0)) else (if (nI (tn a2)) = (nI 1) then ((fX8_bears σ (tn a1)), σ, (nI 0)) else (if (nI (tn a2)) = (nI 2) then ((nI (mK σ 31 (tn a1))).toInt64, σ, (nI 0)) else (a50_3.toInt64, σ, (nI 0))))) = G := hG
          refine lv_iload hx hb dX8_ofEvent_50 (lv_at hl 4 rfl) ?_
          refine lv_aload_n hx hb dX8_ofEvent_52 rfl (lv_at hl 0 rfl) ?_
          refine xget (C := RX8) (T := TX8) (N := 37) 20 hx hb hts hin8 hown I hR.1 rfl (by decide) (List.mem_of_getElem? (i := 3) rfl) rfl rfl dX8_ofEvent_53 ?_
          refine lv_icmp_ge (tgt := 84) hx hb dX8_ofEvent_56 (by decide) (fun _ => ?_) (fun q => absurd (nI_le (Nat.le_of_eq hkN.symm) (by omega)) q)
          refine lv_iload_n hx hb dX8_ofEvent_84 rfl (lv_at hl 2 rfl) ?_
          refine xtop (y := .int (nI (tn a2))) (congrArg Value.int e_a2) ?_
          refine lv_if_ne (tgt := 96) hx hb dX8_ofEvent_85 (by decide) (fun c_85 => ?_) (fun c_85 => ?_)
          · skip
            rw [if_neg c_85] at hG
            refine lv_iload_n hx hb dX8_ofEvent_96 rfl (lv_at hl 2 rfl) ?_
            refine xtop (y := .int (nI (tn a2))) (congrArg Value.int e_a2) ?_
            refine lv_iconst (v := (nI 1)) hx hb dX8_ofEvent_97 (by decide) ?_
            refine lv_icmp_ne (tgt := 109) hx hb dX8_ofEvent_98 (by decide) (fun c_98 => ?_) (fun c_98 => ?_)
            · skip
              rw [if_neg c_98] at hG
              refine lv_iload_n hx hb dX8_ofEvent_109 rfl (lv_at hl 2 rfl) ?_
              refine xtop (y := .int (nI (tn a2))) (congrArg Value.int e_a2) ?_
              refine lv_iconst (v := (nI 2)) hx hb dX8_ofEvent_110 (by decide) ?_
              refine lv_icmp_ne (tgt := 124) hx hb dX8_ofEvent_111 (by decide) (fun c_111 => ?_) (fun c_111 => ?_)
              · skip
                rw [if_neg c_111] at hG
                refine lv_iload_n hx hb dX8_ofEvent_124 rfl (lv_at hl 3 rfl) ?_
                refine lv_i2l (v := a50_3.toInt64) hx hb dX8_ofEvent_125 rfl ?_
                subst hG
                exact xrlQ hx hb hr hlocks dX8_ofEvent_126 I hS ⟨rfl, hR, hF⟩
              · skip
                rw [if_pos c_111] at hG
                refine lv_aload_n hx hb dX8_ofEvent_114 rfl (lv_at hl 0 rfl) ?_
                refine xget (C := RX8) (T := TX8) (N := 37) 31 hx hb hts hin8 hown I hR.1 rfl (by decide) (List.mem_of_getElem? (i := 5) rfl) rfl rfl dX8_ofEvent_115 ?_
                refine lv_iload_n hx hb dX8_ofEvent_118 rfl (lv_at hl 1 rfl) ?_
                refine xtop (y := .int (nI (tn a1))) (congrArg Value.int e_a1) ?_
                refine xiald (i := (tn a1)) (n := 60) hx hb I (hR.2.2.1 31 60 (by decide)) (by omega) (by decide) dX8_ofEvent_119 ?_
                have b119 := w31 (tn a1) (by omega)
                refine lv_i2l (v := (nI (mK σ 31 (tn a1))).toInt64) hx hb dX8_ofEvent_120 rfl ?_
                refine lv_goto (tgt := 126) hx hb dX8_ofEvent_121 (by decide) ?_
                subst hG
                exact xrlQ hx hb hr hlocks dX8_ofEvent_126 I hS ⟨rfl, hR, hF⟩
            · skip
              rw [if_pos c_98] at hG
              refine lv_aload_n hx hb dX8_ofEvent_101 rfl (lv_at hl 0 rfl) ?_
              refine lv_iload_n hx hb dX8_ofEvent_102 rfl (lv_at hl 1 rfl) ?_
              refine xtop (y := .int (nI (tn a1))) (congrArg Value.int e_a1) ?_
              refine xcvR (As := [.int (nI (tn a1))]) (rest := []) (v := some (.long (fX8_bears σ (tn a1)))) ⟨hx, hb, hml, hown, hts⟩ (mX8_bears l lo D E hw σ (nI 0) r ar hR hW (tn a1)  (by first | assumption | omega)) (cwV 1 hts gX8_ofEvent_X8_bears rfl rfl rfl (by decide +kernel) ⟨Nat.le_of_ble_eq_true rfl, Nat.le_of_ble_eq_true rfl⟩) I hR.1 rfl rfl hl.1 rfl (Nat.le_of_ble_eq_true rfl) dX8_ofEvent_103 ⟨Nat.le_of_ble_eq_true rfl, Nat.le_of_ble_eq_true rfl⟩ ?_
              refine W.eq (g2 := F0 m 106 ls [.long (fX8_bears σ (tn a1))]) rfl ?_
              refine lv_goto (tgt := 126) hx hb dX8_ofEvent_106 (by decide) ?_
              subst hG
              exact xrlQ hx hb hr hlocks dX8_ofEvent_126 I hS ⟨rfl, hR, hF⟩
          · skip
            rw [if_pos c_85] at hG
            refine lv_aload_n hx hb dX8_ofEvent_88 rfl (lv_at hl 0 rfl) ?_
            refine lv_iload_n hx hb dX8_ofEvent_89 rfl (lv_at hl 1 rfl) ?_
            refine xtop (y := .int (nI (tn a1))) (congrArg Value.int e_a1) ?_
            refine xcvR (As := [.int (nI (tn a1))]) (rest := []) (v := some (.long (fX8_costOf σ (nI (tn a1))))) ⟨hx, hb, hml, hown, hts⟩ (mX8_costOf l lo D E hw σ (nI 0) r ar hR hW (nI (tn a1))  ) (cwV 1 hts gX8_ofEvent_X8_costOf rfl rfl rfl (by decide +kernel) ⟨Nat.le_of_ble_eq_true rfl, Nat.le_of_ble_eq_true rfl⟩) I hR.1 rfl rfl hl.1 rfl (Nat.le_of_ble_eq_true rfl) dX8_ofEvent_90 ⟨Nat.le_of_ble_eq_true rfl, Nat.le_of_ble_eq_true rfl⟩ ?_
            refine W.eq (g2 := F0 m 93 ls [.long (fX8_costOf σ (nI (tn a1)))]) rfl ?_
            refine lv_goto (tgt := 126) hx hb dX8_ofEvent_93 (by decide) ?_
            subst hG
            exact xrlQ hx hb hr hlocks dX8_ofEvent_126 I hS ⟨rfl, hR, hF⟩
        | succ n50 ih =>
          intro k50 a50_3 hkn hG ls hl
          have hk : k50 < mN σ 20 := by omega
          have hG : lseq ((if (nI (mK σ 25 k50)) = (nI (tn a1)) then (a50_3 + (nI 1)) else (a50_3 + (nI 0)))) (fun q => fX8_ofEvent_L50 σ th a1 a2 n50 (k50 + 1) q) = G := hG
          refine lv_iload hx hb dX8_ofEvent_50 (lv_at hl 4 rfl) ?_
          refine lv_aload_n hx hb dX8_ofEvent_52 rfl (lv_at hl 0 rfl) ?_
          refine xget (C := RX8) (T := TX8) (N := 37) 20 hx hb hts hin8 hown I hR.1 rfl (by decide) (List.mem_of_getElem? (i := 3) rfl) rfl rfl dX8_ofEvent_53 ?_
          refine lv_icmp_ge (tgt := 84) hx hb dX8_ofEvent_56 (by decide) (fun q => absurd q (nI_ge hk (by omega))) (fun _ => ?_)
          refine lv_iload_n hx hb dX8_ofEvent_59 rfl (lv_at hl 3 rfl) ?_
          refine lv_aload_n hx hb dX8_ofEvent_60 rfl (lv_at hl 0 rfl) ?_
          refine xget (C := RX8) (T := TX8) (N := 37) 25 hx hb hts hin8 hown I hR.1 rfl (by decide) (List.mem_of_getElem? (i := 4) rfl) rfl rfl dX8_ofEvent_61 ?_
          refine lv_iload hx hb dX8_ofEvent_64 (lv_at hl 4 rfl) ?_
          refine xiald (i := k50) (n := 60) hx hb I (hR.2.2.1 25 60 (by decide)) (by omega) (by decide) dX8_ofEvent_66 ?_
          have b66 := w25 k50 (by omega)
          refine lv_iload_n hx hb dX8_ofEvent_67 rfl (lv_at hl 1 rfl) ?_
          refine xtop (y := .int (nI (tn a1))) (congrArg Value.int e_a1) ?_
          refine lv_icmp_ne (tgt := 75) hx hb dX8_ofEvent_68 (by decide) (fun c_68 => ?_) (fun c_68 => ?_)
          · skip
            rw [if_neg c_68] at hG
            refine lv_iconst (v := (nI 0)) hx hb dX8_ofEvent_75 (by decide) ?_
            refine lv_iadd hx hb dX8_ofEvent_76 ?_
            refine lv_istore_n (lv' := [(3, .int (a50_3 + (nI 0))), (0, .ref r), (1, .int a1), (2, .int a2), (4, .int (nI k50))]) hx hb dX8_ofEvent_77 rfl hl (by decide) rfl (fun ls hl => ?_)
            refine lv_iinc (v := (nI (k50 + 1))) (lv' := [(4, .int (nI (k50 + 1))), (3, .int (a50_3 + (nI 0))), (0, .ref r), (1, .int a1), (2, .int a2)]) hx hb dX8_ofEvent_78 hl (k := 4) rfl (nI_succ k50).symm (by decide) rfl (fun ls hl => ?_)
            refine lv_goto (tgt := 50) hx hb dX8_ofEvent_81 (by decide) ?_
            exact ih (k50 + 1) (a50_3 + (nI 0)) (by first | omega | (simp only [mSI_N, mSL_N]; omega)) hG ls (lv_sub hl [2, 3, 4, 1, 0] rfl)
          · skip
            rw [if_pos c_68] at hG
            refine lv_iconst (v := (nI 1)) hx hb dX8_ofEvent_71 (by decide) ?_
            refine lv_goto (tgt := 76) hx hb dX8_ofEvent_72 (by decide) ?_
            refine lv_iadd hx hb dX8_ofEvent_76 ?_
            refine lv_istore_n (lv' := [(3, .int (a50_3 + (nI 1))), (0, .ref r), (1, .int a1), (2, .int a2), (4, .int (nI k50))]) hx hb dX8_ofEvent_77 rfl hl (by decide) rfl (fun ls hl => ?_)
            refine lv_iinc (v := (nI (k50 + 1))) (lv' := [(4, .int (nI (k50 + 1))), (3, .int (a50_3 + (nI 1))), (0, .ref r), (1, .int a1), (2, .int a2)]) hx hb dX8_ofEvent_78 hl (k := 4) rfl (nI_succ k50).symm (by decide) rfl (fun ls hl => ?_)
            refine lv_goto (tgt := 50) hx hb dX8_ofEvent_81 (by decide) ?_
            exact ih (k50 + 1) (a50_3 + (nI 1)) (by first | omega | (simp only [mSI_N, mSL_N]; omega)) hG ls (lv_sub hl [2, 3, 4, 1, 0] rfl)
      exact L50 (mN σ 20) 0 (nI 0) (by omega) hG ls (lv_sub hl [2, 3, 4, 1, 0] rfl)
    · skip
      rw [if_pos c_25] at hG
      refine lv_iconst (v := (nI 2)) hx hb dX8_ofEvent_28 (by decide) ?_
      refine lv_goto (tgt := 33) hx hb dX8_ofEvent_29 (by decide) ?_
      refine xputM 0 hx hb hts hin8 hown I hS hR hF (by decide) (List.mem_of_getElem? (i := 2) rfl) rfl rfl rfl rfl rfl (hR.putTh _) dX8_ofEvent_33 (fun H locs hw I hR hF hS => ?_)
      refine lv_aload_n hx hb dX8_ofEvent_36 rfl (lv_at hl 0 rfl) ?_
      refine xget (C := RX8) (T := TX8) (N := 37) 0 hx hb hts hin8 hown I hR.1 rfl (by decide) (List.mem_of_getElem? (i := 2) rfl) rfl rfl dX8_ofEvent_37 ?_
      refine lv_if_le (tgt := 45) hx hb dX8_ofEvent_40 (by decide) (fun q => absurd q (by decide)) (fun _ => ?_)
      refine lv_lconst (v := (0 : Int64)) hx hb dX8_ofEvent_43 rfl ?_
      subst hG
      exact xrlQ hx hb hr hlocks dX8_ofEvent_44 I hS ⟨rfl, hR, hF⟩
  · skip
    rw [if_pos c_12] at hG
    refine lv_iconst (v := (nI 1)) hx hb dX8_ofEvent_15 (by decide) ?_
    refine lv_goto (tgt := 33) hx hb dX8_ofEvent_16 (by decide) ?_
    refine xputM 0 hx hb hts hin8 hown I hS hR hF (by decide) (List.mem_of_getElem? (i := 2) rfl) rfl rfl rfl rfl rfl (hR.putTh _) dX8_ofEvent_33 (fun H locs hw I hR hF hS => ?_)
    refine lv_aload_n hx hb dX8_ofEvent_36 rfl (lv_at hl 0 rfl) ?_
    refine xget (C := RX8) (T := TX8) (N := 37) 0 hx hb hts hin8 hown I hR.1 rfl (by decide) (List.mem_of_getElem? (i := 2) rfl) rfl rfl dX8_ofEvent_37 ?_
    refine lv_if_le (tgt := 45) hx hb dX8_ofEvent_40 (by decide) (fun q => absurd q (by decide)) (fun _ => ?_)
    refine lv_lconst (v := (0 : Int64)) hx hb dX8_ofEvent_43 rfl ?_
    subst hG
    exact xrlQ hx hb hr hlocks dX8_ofEvent_44 I hS ⟨rfl, hR, hF⟩

def fX8_cost (σ : MT) (th : Int32) (a1 : Int32) : Int64 × MT × Int32 := (if (fX8_isYear a1) = 0 then ((0 : Int64), σ, (nI 1)) else ((fX8_costIn σ (nI (tn a1))), σ, (nI 0)))
set_option maxHeartbeats 4000000 in
set_option maxRecDepth 100000 in
theorem mX8_cost (l : Launch) (lo : Nat) (D : va_G) (E : Nat → ClassId) (h : XW) (σ : MT) (th : Int32) (r : Nat) (ar : Nat → Nat) (hR : RM E σ th r ar h) (hW : MW σ) (a1 : Int32) : Met l yX8_cost wsX8_cost ({ frames := 6, cells := 0, slots := 0, locals := 153 } : Room) (xP lo D E h [.ref r, .int a1]) (xQ lo D (fun v h' => v = some (.long (fX8_cost σ th a1).1) ∧ RM E (fX8_cost σ th a1).2.1 (fX8_cost σ th a1).2.2 r ar h' ∧ xF r ar h h')) 0 0 (xA lo) := by
  obtain ⟨G, hG⟩ : ∃ G, fX8_cost σ th a1 = G := ⟨_, rfl⟩
  rw [hG]
  unfold fX8_cost at hG
  refine Met.ofW (cc := cX8_cost) (maxL := 2) (ret := (some .long)) (by decide) rfl ?_
  intro p e s m args below meth c s₁ B hml hv
  obtain ⟨rfl, I⟩ := hv
  have hx := B.exec
  have hb := B.bytes
  have hr := B.returns
  have hts := atoms_spec (ws := wsX8_cost) B.pre
  have hown : s.vm.findClass RX8 = some m.cls := findClass_of_methodNamed B.named
  have hlocks := B.notSynchronized
  have hl := lv_entry ([.ref r, .int a1] : List Value) (n := 2) (Nat.le_of_ble_eq_true rfl)
  rw [lg_entry_eq]
  generalize (lg_sl ([.ref r, .int a1] : List Value) ++ List.replicate (2 - (lg_sl ([.ref r, .int a1] : List Value)).length) Slot.unset).toArray = ls at hl ⊢
  have hl : lv_has ls 2 [(0, .ref r), (1, .int a1)] := hl
  have hin8 : ∀ w ∈ u_ws RX8 TX8 37, w ∈ wsX8_cost := fun _ h => List.mem_cons_of_mem _ (List.mem_append_right _ (h))
  have hW0 := hW
  obtain ⟨⟨w1, w2, w3, w4, w5, w6, w7⟩, w9, w12, w21, w22, w23, w25, w31, z26, z27, z28, z36⟩ := id hW
  have hS : va_S (xA lo) s.heap s.heap [] := va_S.rf
  have hF : xF r ar h h := xF.rf
  refine lv_aload_n hx hb dX8_cost_0 rfl (lv_at hl 0 rfl) ?_
  refine lv_iload_n hx hb dX8_cost_1 rfl (lv_at hl 1 rfl) ?_
  refine xcsR (As := [.int a1]) (rest := [.ref r]) (v := some (.int (fX8_isYear a1))) ⟨hx, hb, hml, hown, hts⟩ (mX8_isYear l lo D E h  a1  ) (va_cwS 1 hts gX8_cost_X8_isYear rfl rfl rfl (by decide +kernel) ⟨Nat.le_of_ble_eq_true rfl, Nat.le_of_ble_eq_true rfl⟩) I rfl hl.1 rfl (Nat.le_of_ble_eq_true rfl) dX8_cost_2 ⟨Nat.le_of_ble_eq_true rfl, Nat.le_of_ble_eq_true rfl⟩ ?_
  refine W.eq (g2 := F0 m 5 ls [.int (fX8_isYear a1), .ref r]) rfl ?_
  refine lv_if_eq (tgt := 12) hx hb dX8_cost_5 (by decide) (fun c_5 => ?_) (fun c_5 => ?_)
  · skip
    rw [if_pos c_5] at hG
    refine lv_iconst (v := (nI 1)) hx hb dX8_cost_12 (by decide) ?_
    refine xputM 0 hx hb hts hin8 hown I hS hR hF (by decide) (List.mem_of_getElem? (i := 1) rfl) rfl rfl rfl rfl rfl (hR.putTh _) dX8_cost_13 (fun H locs hw I hR hF hS => ?_)
    refine lv_aload_n hx hb dX8_cost_16 rfl (lv_at hl 0 rfl) ?_
    refine xget (C := RX8) (T := TX8) (N := 37) 0 hx hb hts hin8 hown I hR.1 rfl (by decide) (List.mem_of_getElem? (i := 1) rfl) rfl rfl dX8_cost_17 ?_
    refine lv_if_le (tgt := 27) hx hb dX8_cost_20 (by decide) (fun q => absurd q (by decide)) (fun _ => ?_)
    refine lv_lconst (v := (0 : Int64)) hx hb dX8_cost_23 rfl ?_
    refine lv_goto (tgt := 32) hx hb dX8_cost_24 (by decide) ?_
    subst hG
    exact xrlQ hx hb hr hlocks dX8_cost_32 I hS ⟨rfl, hR, hF⟩
  · skip
    rw [if_neg c_5] at hG
    obtain ⟨e_a1, l_a1⟩ := ok_isYear c_5
    refine lv_iconst (v := (nI 0)) hx hb dX8_cost_8 (by decide) ?_
    refine lv_goto (tgt := 13) hx hb dX8_cost_9 (by decide) ?_
    refine xputM 0 hx hb hts hin8 hown I hS hR hF (by decide) (List.mem_of_getElem? (i := 1) rfl) rfl rfl rfl rfl rfl (hR.putTh _) dX8_cost_13 (fun H locs hw I hR hF hS => ?_)
    refine lv_aload_n hx hb dX8_cost_16 rfl (lv_at hl 0 rfl) ?_
    refine xget (C := RX8) (T := TX8) (N := 37) 0 hx hb hts hin8 hown I hR.1 rfl (by decide) (List.mem_of_getElem? (i := 1) rfl) rfl rfl dX8_cost_17 ?_
    refine lv_if_le (tgt := 27) hx hb dX8_cost_20 (by decide) (fun _ => ?_) (fun q => absurd (by decide) q)
    refine lv_aload_n hx hb dX8_cost_27 rfl (lv_at hl 0 rfl) ?_
    refine lv_iload_n hx hb dX8_cost_28 rfl (lv_at hl 1 rfl) ?_
    refine xtop (y := .int (nI (tn a1))) (congrArg Value.int e_a1) ?_
    refine xcvR (As := [.int (nI (tn a1))]) (rest := []) (v := some (.long (fX8_costIn σ (nI (tn a1))))) ⟨hx, hb, hml, hown, hts⟩ (mX8_costIn l lo D E hw σ (nI 0) r ar hR hW (nI (tn a1))  ) (cwV 1 hts gX8_cost_X8_costIn rfl rfl rfl (by decide +kernel) ⟨Nat.le_of_ble_eq_true rfl, Nat.le_of_ble_eq_true rfl⟩) I hR.1 rfl rfl hl.1 rfl (Nat.le_of_ble_eq_true rfl) dX8_cost_29 ⟨Nat.le_of_ble_eq_true rfl, Nat.le_of_ble_eq_true rfl⟩ ?_
    refine W.eq (g2 := F0 m 32 ls [.long (fX8_costIn σ (nI (tn a1)))]) rfl ?_
    subst hG
    exact xrlQ hx hb hr hlocks dX8_cost_32 I hS ⟨rfl, hR, hF⟩

def fX8_advance (σ : MT) (th : Int32) (a1 : Int32) (a2 : Int32) : Int32 × MT × Int32 := (if (fX8_isYear a1) = 0 then ((nI 0), σ, (nI 1)) else (if (fX8_isIn a2 (nI 0) (nI 1000000)) = 0 then ((nI 0), σ, (nI 1)) else (if (nI (tn a1)) < (nI (mN σ 34)) then ((nI 0), σ, (nI 2)) else (if (fX8_hasReleased σ (tn a1)) = 0 then ((mI σ 32 (tn a1)), (mSI σ 32 (tn a1) (nI (tn a2))), (nI 0)) else ((nI 0), σ, (nI 2))))))
set_option maxHeartbeats 4000000 in
set_option maxRecDepth 100000 in
theorem mX8_advance (l : Launch) (lo : Nat) (D : va_G) (E : Nat → ClassId) (h : XW) (σ : MT) (th : Int32) (r : Nat) (ar : Nat → Nat) (hR : RM E σ th r ar h) (hW : MW σ) (a1 : Int32) (a2 : Int32) : Met l yX8_advance wsX8_advance ({ frames := 2, cells := 0, slots := 0, locals := 42 } : Room) (xP lo D E h [.ref r, .int a1, .int a2]) (xQ lo D (fun v h' => v = some (.int (fX8_advance σ th a1 a2).1) ∧ RM E (fX8_advance σ th a1 a2).2.1 (fX8_advance σ th a1 a2).2.2 r ar h' ∧ xF r ar h h')) 0 0 (xA lo) := by
  obtain ⟨G, hG⟩ : ∃ G, fX8_advance σ th a1 a2 = G := ⟨_, rfl⟩
  rw [hG]
  unfold fX8_advance at hG
  refine Met.ofW (cc := cX8_advance) (maxL := 5) (ret := (some .int)) (by decide) rfl ?_
  intro p e s m args below meth c s₁ B hml hv
  obtain ⟨rfl, I⟩ := hv
  have hx := B.exec
  have hb := B.bytes
  have hr := B.returns
  have hts := atoms_spec (ws := wsX8_advance) B.pre
  have hown : s.vm.findClass RX8 = some m.cls := findClass_of_methodNamed B.named
  have hlocks := B.notSynchronized
  have hl := lv_entry ([.ref r, .int a1, .int a2] : List Value) (n := 5) (Nat.le_of_ble_eq_true rfl)
  rw [lg_entry_eq]
  generalize (lg_sl ([.ref r, .int a1, .int a2] : List Value) ++ List.replicate (5 - (lg_sl ([.ref r, .int a1, .int a2] : List Value)).length) Slot.unset).toArray = ls at hl ⊢
  have hl : lv_has ls 5 [(0, .ref r), (1, .int a1), (2, .int a2)] := hl
  have hin8 : ∀ w ∈ u_ws RX8 TX8 37, w ∈ wsX8_advance := fun _ h => List.mem_cons_of_mem _ (List.mem_append_right _ (h))
  have hW0 := hW
  obtain ⟨⟨w1, w2, w3, w4, w5, w6, w7⟩, w9, w12, w21, w22, w23, w25, w31, z26, z27, z28, z36⟩ := id hW
  have hS : va_S (xA lo) s.heap s.heap [] := va_S.rf
  have hF : xF r ar h h := xF.rf
  refine lv_iload_n hx hb dX8_advance_0 rfl (lv_at hl 1 rfl) ?_
  refine xcsR (As := [.int a1]) (rest := []) (v := some (.int (fX8_isYear a1))) ⟨hx, hb, hml, hown, hts⟩ (mX8_isYear l lo D E h  a1  ) (va_cwS 1 hts gX8_advance_X8_isYear rfl rfl rfl (by decide +kernel) ⟨Nat.le_of_ble_eq_true rfl, Nat.le_of_ble_eq_true rfl⟩) I rfl hl.1 rfl (Nat.le_of_ble_eq_true rfl) dX8_advance_1 ⟨Nat.le_of_ble_eq_true rfl, Nat.le_of_ble_eq_true rfl⟩ ?_
  refine W.eq (g2 := F0 m 4 ls [.int (fX8_isYear a1)]) rfl ?_
  refine lv_if_eq (tgt := 21) hx hb dX8_advance_4 (by decide) (fun c_4 => ?_) (fun c_4 => ?_)
  · skip
    rw [if_pos c_4] at hG
    refine lv_iconst (v := (nI 0)) hx hb dX8_advance_21 (by decide) ?_
    refine lv_istore_n (lv' := [(3, .int (nI 0)), (0, .ref r), (1, .int a1), (2, .int a2)]) hx hb dX8_advance_22 rfl hl (by decide) rfl (fun ls hl => ?_)
    refine lv_aload_n hx hb dX8_advance_23 rfl (lv_at hl 1 rfl) ?_
    refine lv_iload_n hx hb dX8_advance_24 rfl (lv_at hl 0 rfl) ?_
    refine lv_if_ne (tgt := 32) hx hb dX8_advance_25 (by decide) (fun q => absurd (by decide) q) (fun _ => ?_)
    refine lv_iconst (v := (nI 1)) hx hb dX8_advance_28 (by decide) ?_
    refine lv_goto (tgt := 53) hx hb dX8_advance_29 (by decide) ?_
    refine xputM 0 hx hb hts hin8 hown I hS hR hF (by decide) (List.mem_of_getElem? (i := 3) rfl) rfl rfl rfl rfl rfl (hR.putTh _) dX8_advance_53 (fun H locs hw I hR hF hS => ?_)
    refine lv_aload_n hx hb dX8_advance_56 rfl (lv_at hl 1 rfl) ?_
    refine xget (C := RX8) (T := TX8) (N := 37) 0 hx hb hts hin8 hown I hR.1 rfl (by decide) (List.mem_of_getElem? (i := 3) rfl) rfl rfl dX8_advance_57 ?_
    refine lv_if_le (tgt := 65) hx hb dX8_advance_60 (by decide) (fun q => absurd q (by decide)) (fun _ => ?_)
    refine lv_iconst (v := (nI 0)) hx hb dX8_advance_63 (by decide) ?_
    subst hG
    exact xriQ hx hb hr hlocks dX8_advance_64 I hS ⟨rfl, hR, hF⟩
  · skip
    rw [if_neg c_4] at hG
    obtain ⟨e_a1, l_a1⟩ := ok_isYear c_4
    refine lv_iload_n hx hb dX8_advance_7 rfl (lv_at hl 2 rfl) ?_
    refine lv_iconst (v := (nI 0)) hx hb dX8_advance_8 (by decide) ?_
    refine lv_ldc (v := (nI 1000000)) hx hb hown (hts _ (List.mem_of_getElem? (i := 1) rfl)) dX8_advance_9 ?_
    refine xcsR (As := [.int a2, .int (nI 0), .int (nI 1000000)]) (rest := []) (v := some (.int (fX8_isIn a2 (nI 0) (nI 1000000)))) ⟨hx, hb, hml, hown, hts⟩ (mX8_isIn l lo D E h  a2 (nI 0) (nI 1000000)  ) (va_cwS 3 hts gX8_advance_X8_isIn rfl rfl rfl (by decide +kernel) ⟨Nat.le_of_ble_eq_true rfl, Nat.le_of_ble_eq_true rfl⟩) I rfl hl.1 rfl (Nat.le_of_ble_eq_true rfl) dX8_advance_11 ⟨Nat.le_of_ble_eq_true rfl, Nat.le_of_ble_eq_true rfl⟩ ?_
    refine W.eq (g2 := F0 m 14 ls [.int (fX8_isIn a2 (nI 0) (nI 1000000))]) rfl ?_
    refine lv_if_eq (tgt := 21) hx hb dX8_advance_14 (by decide) (fun c_14 => ?_) (fun c_14 => ?_)
    · skip
      rw [if_pos c_14] at hG
      refine lv_iconst (v := (nI 0)) hx hb dX8_advance_21 (by decide) ?_
      refine lv_istore_n (lv' := [(3, .int (nI 0)), (0, .ref r), (1, .int a1), (2, .int a2)]) hx hb dX8_advance_22 rfl hl (by decide) rfl (fun ls hl => ?_)
      refine lv_aload_n hx hb dX8_advance_23 rfl (lv_at hl 1 rfl) ?_
      refine lv_iload_n hx hb dX8_advance_24 rfl (lv_at hl 0 rfl) ?_
      refine lv_if_ne (tgt := 32) hx hb dX8_advance_25 (by decide) (fun q => absurd (by decide) q) (fun _ => ?_)
      refine lv_iconst (v := (nI 1)) hx hb dX8_advance_28 (by decide) ?_
      refine lv_goto (tgt := 53) hx hb dX8_advance_29 (by decide) ?_
      refine xputM 0 hx hb hts hin8 hown I hS hR hF (by decide) (List.mem_of_getElem? (i := 3) rfl) rfl rfl rfl rfl rfl (hR.putTh _) dX8_advance_53 (fun H locs hw I hR hF hS => ?_)
      refine lv_aload_n hx hb dX8_advance_56 rfl (lv_at hl 1 rfl) ?_
      refine xget (C := RX8) (T := TX8) (N := 37) 0 hx hb hts hin8 hown I hR.1 rfl (by decide) (List.mem_of_getElem? (i := 3) rfl) rfl rfl dX8_advance_57 ?_
      refine lv_if_le (tgt := 65) hx hb dX8_advance_60 (by decide) (fun q => absurd q (by decide)) (fun _ => ?_)
      refine lv_iconst (v := (nI 0)) hx hb dX8_advance_63 (by decide) ?_
      subst hG
      exact xriQ hx hb hr hlocks dX8_advance_64 I hS ⟨rfl, hR, hF⟩
    · skip
      rw [if_neg c_14] at hG
      obtain ⟨e_a2, l_a2⟩ := ok_isIn (by decide) c_14
      refine lv_iconst (v := (nI 1)) hx hb dX8_advance_17 (by decide) ?_
      refine lv_goto (tgt := 22) hx hb dX8_advance_18 (by decide) ?_
      refine lv_istore_n (lv' := [(3, .int (nI 1)), (0, .ref r), (1, .int a1), (2, .int a2)]) hx hb dX8_advance_22 rfl hl (by decide) rfl (fun ls hl => ?_)
      refine lv_aload_n hx hb dX8_advance_23 rfl (lv_at hl 1 rfl) ?_
      refine lv_iload_n hx hb dX8_advance_24 rfl (lv_at hl 0 rfl) ?_
      refine lv_if_ne (tgt := 32) hx hb dX8_advance_25 (by decide) (fun _ => ?_) (fun q => absurd q (by decide))
      refine lv_iload_n hx hb dX8_advance_32 rfl (lv_at hl 2 rfl) ?_
      refine xtop (y := .int (nI (tn a1))) (congrArg Value.int e_a1) ?_
      refine lv_aload_n hx hb dX8_advance_33 rfl (lv_at hl 1 rfl) ?_
      refine xget (C := RX8) (T := TX8) (N := 37) 34 hx hb hts hin8 hown I hR.1 rfl (by decide) (List.mem_of_getElem? (i := 2) rfl) rfl rfl dX8_advance_34 ?_
      refine lv_icmp_lt (tgt := 48) hx hb dX8_advance_37 (by decide) (fun c_37 => ?_) (fun c_37 => ?_)
      · skip
        rw [if_pos c_37] at hG
        refine lv_iconst (v := (nI 2)) hx hb dX8_advance_48 (by decide) ?_
        refine lv_goto (tgt := 53) hx hb dX8_advance_49 (by decide) ?_
        refine xputM 0 hx hb hts hin8 hown I hS hR hF (by decide) (List.mem_of_getElem? (i := 3) rfl) rfl rfl rfl rfl rfl (hR.putTh _) dX8_advance_53 (fun H locs hw I hR hF hS => ?_)
        refine lv_aload_n hx hb dX8_advance_56 rfl (lv_at hl 1 rfl) ?_
        refine xget (C := RX8) (T := TX8) (N := 37) 0 hx hb hts hin8 hown I hR.1 rfl (by decide) (List.mem_of_getElem? (i := 3) rfl) rfl rfl dX8_advance_57 ?_
        refine lv_if_le (tgt := 65) hx hb dX8_advance_60 (by decide) (fun q => absurd q (by decide)) (fun _ => ?_)
        refine lv_iconst (v := (nI 0)) hx hb dX8_advance_63 (by decide) ?_
        subst hG
        exact xriQ hx hb hr hlocks dX8_advance_64 I hS ⟨rfl, hR, hF⟩
      · skip
        rw [if_neg c_37] at hG
        refine lv_aload_n hx hb dX8_advance_40 rfl (lv_at hl 1 rfl) ?_
        refine lv_iload_n hx hb dX8_advance_41 rfl (lv_at hl 2 rfl) ?_
        refine xtop (y := .int (nI (tn a1))) (congrArg Value.int e_a1) ?_
        refine xcvR (As := [.int (nI (tn a1))]) (rest := [.ref r]) (v := some (.int (fX8_hasReleased σ (tn a1)))) ⟨hx, hb, hml, hown, hts⟩ (mX8_hasReleased l lo D E h σ th r ar hR hW (tn a1)  (by first | assumption | omega)) (cwV 1 hts gX8_advance_X8_hasReleased rfl rfl rfl (by decide +kernel) ⟨Nat.le_of_ble_eq_true rfl, Nat.le_of_ble_eq_true rfl⟩) I hR.1 rfl rfl hl.1 rfl (Nat.le_of_ble_eq_true rfl) dX8_advance_42 ⟨Nat.le_of_ble_eq_true rfl, Nat.le_of_ble_eq_true rfl⟩ ?_
        refine W.eq (g2 := F0 m 45 ls [.int (fX8_hasReleased σ (tn a1)), .ref r]) rfl ?_
        refine lv_if_eq (tgt := 52) hx hb dX8_advance_45 (by decide) (fun c_45 => ?_) (fun c_45 => ?_)
        · skip
          rw [if_pos c_45] at hG
          refine lv_iconst (v := (nI 0)) hx hb dX8_advance_52 (by decide) ?_
          refine xputM 0 hx hb hts hin8 hown I hS hR hF (by decide) (List.mem_of_getElem? (i := 3) rfl) rfl rfl rfl rfl rfl (hR.putTh _) dX8_advance_53 (fun H locs hw I hR hF hS => ?_)
          refine lv_aload_n hx hb dX8_advance_56 rfl (lv_at hl 1 rfl) ?_
          refine xget (C := RX8) (T := TX8) (N := 37) 0 hx hb hts hin8 hown I hR.1 rfl (by decide) (List.mem_of_getElem? (i := 3) rfl) rfl rfl dX8_advance_57 ?_
          refine lv_if_le (tgt := 65) hx hb dX8_advance_60 (by decide) (fun _ => ?_) (fun q => absurd (by decide) q)
          refine lv_aload_n hx hb dX8_advance_65 rfl (lv_at hl 1 rfl) ?_
          refine xget (C := RX8) (T := TX8) (N := 37) 32 hx hb hts hin8 hown I hR.1 rfl (by decide) (List.mem_of_getElem? (i := 4) rfl) rfl rfl dX8_advance_66 ?_
          refine lv_iload_n hx hb dX8_advance_69 rfl (lv_at hl 2 rfl) ?_
          refine xtop (y := .int (nI (tn a1))) (congrArg Value.int e_a1) ?_
          refine xiald (i := (tn a1)) (n := 20) hx hb I (hR.2.1 32 20 (by decide)) (by omega) (by decide) dX8_advance_70 ?_
          refine lv_istore (lv' := [(4, .int (mI σ 32 (tn a1))), (3, .int (nI 1)), (0, .ref r), (1, .int a1), (2, .int a2)]) hx hb dX8_advance_71 hl (by decide) rfl (fun ls hl => ?_)
          refine lv_aload_n hx hb dX8_advance_73 rfl (lv_at hl 2 rfl) ?_
          refine xget (C := RX8) (T := TX8) (N := 37) 32 hx hb hts hin8 hown I hR.1 rfl (by decide) (List.mem_of_getElem? (i := 4) rfl) rfl rfl dX8_advance_74 ?_
          refine lv_iload_n hx hb dX8_advance_77 rfl (lv_at hl 3 rfl) ?_
          refine xtop (y := .int (nI (tn a1))) (congrArg Value.int e_a1) ?_
          refine lv_iload_n hx hb dX8_advance_78 rfl (lv_at hl 4 rfl) ?_
          refine xtop (y := .int (nI (tn a2))) (congrArg Value.int e_a2) ?_
          refine xiM (i := (tn a1)) (n := 20) 32 hx hb I hS hR hF (by decide) (by omega) (by decide) dX8_advance_79 (fun H locs hw I hR hF hS => ?_)
          have hW := hW.sI (k := 32) (by decide) (tn a1) (nI (tn a2))
          refine lv_iload hx hb dX8_advance_80 (lv_at hl 0 rfl) ?_
          subst hG
          exact xriQ hx hb hr hlocks dX8_advance_82 I hS ⟨rfl, hR, hF⟩
        · skip
          rw [if_neg c_45] at hG
          refine lv_iconst (v := (nI 2)) hx hb dX8_advance_48 (by decide) ?_
          refine lv_goto (tgt := 53) hx hb dX8_advance_49 (by decide) ?_
          refine xputM 0 hx hb hts hin8 hown I hS hR hF (by decide) (List.mem_of_getElem? (i := 3) rfl) rfl rfl rfl rfl rfl (hR.putTh _) dX8_advance_53 (fun H locs hw I hR hF hS => ?_)
          refine lv_aload_n hx hb dX8_advance_56 rfl (lv_at hl 1 rfl) ?_
          refine xget (C := RX8) (T := TX8) (N := 37) 0 hx hb hts hin8 hown I hR.1 rfl (by decide) (List.mem_of_getElem? (i := 3) rfl) rfl rfl dX8_advance_57 ?_
          refine lv_if_le (tgt := 65) hx hb dX8_advance_60 (by decide) (fun q => absurd q (by decide)) (fun _ => ?_)
          refine lv_iconst (v := (nI 0)) hx hb dX8_advance_63 (by decide) ?_
          subst hG
          exact xriQ hx hb hr hlocks dX8_advance_64 I hS ⟨rfl, hR, hF⟩

def fX8_further (σ : MT) (th : Int32) (a1 : Int32) (a2 : Int32) : Int32 × MT × Int32 := (if (fX8_isYear a1) = 0 then ((nI 0), σ, (nI 1)) else (if (fX8_isIn a2 (nI 1) (nI 200)) = 0 then ((nI 0), σ, (nI 1)) else (if (nI (tn a1)) < (nI (mN σ 34)) then ((nI 0), σ, (nI 2)) else (if ((mI σ 33 (tn a1)) + (nI (tn a2))) ≤ (nI 1000) then ((mI (mSI σ 33 (tn a1) ((mI σ 33 (tn a1)) + (nI (tn a2)))) 33 (tn a1)), (mSI σ 33 (tn a1) ((mI σ 33 (tn a1)) + (nI (tn a2)))), (nI 0)) else ((nI 0), σ, (nI 2))))))
set_option maxHeartbeats 4000000 in
set_option maxRecDepth 100000 in
theorem mX8_further (l : Launch) (lo : Nat) (D : va_G) (E : Nat → ClassId) (h : XW) (σ : MT) (th : Int32) (r : Nat) (ar : Nat → Nat) (hR : RM E σ th r ar h) (hW : MW σ) (a1 : Int32) (a2 : Int32) : Met l yX8_further wsX8_further ({ frames := 2, cells := 0, slots := 0, locals := 42 } : Room) (xP lo D E h [.ref r, .int a1, .int a2]) (xQ lo D (fun v h' => v = some (.int (fX8_further σ th a1 a2).1) ∧ RM E (fX8_further σ th a1 a2).2.1 (fX8_further σ th a1 a2).2.2 r ar h' ∧ xF r ar h h')) 0 0 (xA lo) := by
  obtain ⟨G, hG⟩ : ∃ G, fX8_further σ th a1 a2 = G := ⟨_, rfl⟩
  rw [hG]
  unfold fX8_further at hG
  refine Met.ofW (cc := cX8_further) (maxL := 4) (ret := (some .int)) (by decide) rfl ?_
  intro p e s m args below meth c s₁ B hml hv
  obtain ⟨rfl, I⟩ := hv
  have hx := B.exec
  have hb := B.bytes
  have hr := B.returns
  have hts := atoms_spec (ws := wsX8_further) B.pre
  have hown : s.vm.findClass RX8 = some m.cls := findClass_of_methodNamed B.named
  have hlocks := B.notSynchronized
  have hl := lv_entry ([.ref r, .int a1, .int a2] : List Value) (n := 4) (Nat.le_of_ble_eq_true rfl)
  rw [lg_entry_eq]
  generalize (lg_sl ([.ref r, .int a1, .int a2] : List Value) ++ List.replicate (4 - (lg_sl ([.ref r, .int a1, .int a2] : List Value)).length) Slot.unset).toArray = ls at hl ⊢
  have hl : lv_has ls 4 [(0, .ref r), (1, .int a1), (2, .int a2)] := hl
  have hin8 : ∀ w ∈ u_ws RX8 TX8 37, w ∈ wsX8_further := fun _ h => List.mem_cons_of_mem _ (List.mem_append_right _ (h))
  have hW0 := hW
  obtain ⟨⟨w1, w2, w3, w4, w5, w6, w7⟩, w9, w12, w21, w22, w23, w25, w31, z26, z27, z28, z36⟩ := id hW
  have hS : va_S (xA lo) s.heap s.heap [] := va_S.rf
  have hF : xF r ar h h := xF.rf
  refine lv_iload_n hx hb dX8_further_0 rfl (lv_at hl 1 rfl) ?_
  refine xcsR (As := [.int a1]) (rest := []) (v := some (.int (fX8_isYear a1))) ⟨hx, hb, hml, hown, hts⟩ (mX8_isYear l lo D E h  a1  ) (va_cwS 1 hts gX8_further_X8_isYear rfl rfl rfl (by decide +kernel) ⟨Nat.le_of_ble_eq_true rfl, Nat.le_of_ble_eq_true rfl⟩) I rfl hl.1 rfl (Nat.le_of_ble_eq_true rfl) dX8_further_1 ⟨Nat.le_of_ble_eq_true rfl, Nat.le_of_ble_eq_true rfl⟩ ?_
  refine W.eq (g2 := F0 m 4 ls [.int (fX8_isYear a1)]) rfl ?_
  refine lv_if_eq (tgt := 22) hx hb dX8_further_4 (by decide) (fun c_4 => ?_) (fun c_4 => ?_)
  · skip
    rw [if_pos c_4] at hG
    refine lv_iconst (v := (nI 0)) hx hb dX8_further_22 (by decide) ?_
    refine lv_istore_n (lv' := [(3, .int (nI 0)), (0, .ref r), (1, .int a1), (2, .int a2)]) hx hb dX8_further_23 rfl hl (by decide) rfl (fun ls hl => ?_)
    refine lv_aload_n hx hb dX8_further_24 rfl (lv_at hl 1 rfl) ?_
    refine lv_iload_n hx hb dX8_further_25 rfl (lv_at hl 0 rfl) ?_
    refine lv_if_ne (tgt := 33) hx hb dX8_further_26 (by decide) (fun q => absurd (by decide) q) (fun _ => ?_)
    refine lv_iconst (v := (nI 1)) hx hb dX8_further_29 (by decide) ?_
    refine lv_goto (tgt := 60) hx hb dX8_further_30 (by decide) ?_
    refine xputM 0 hx hb hts hin8 hown I hS hR hF (by decide) (List.mem_of_getElem? (i := 3) rfl) rfl rfl rfl rfl rfl (hR.putTh _) dX8_further_60 (fun H locs hw I hR hF hS => ?_)
    refine lv_aload_n hx hb dX8_further_63 rfl (lv_at hl 1 rfl) ?_
    refine xget (C := RX8) (T := TX8) (N := 37) 0 hx hb hts hin8 hown I hR.1 rfl (by decide) (List.mem_of_getElem? (i := 3) rfl) rfl rfl dX8_further_64 ?_
    refine lv_if_le (tgt := 72) hx hb dX8_further_67 (by decide) (fun q => absurd q (by decide)) (fun _ => ?_)
    refine lv_iconst (v := (nI 0)) hx hb dX8_further_70 (by decide) ?_
    subst hG
    exact xriQ hx hb hr hlocks dX8_further_71 I hS ⟨rfl, hR, hF⟩
  · skip
    rw [if_neg c_4] at hG
    obtain ⟨e_a1, l_a1⟩ := ok_isYear c_4
    refine lv_iload_n hx hb dX8_further_7 rfl (lv_at hl 2 rfl) ?_
    refine lv_iconst (v := (nI 1)) hx hb dX8_further_8 (by decide) ?_
    refine lv_sipush (v := (nI 200)) hx hb dX8_further_9 (by decide) ?_
    refine xcsR (As := [.int a2, .int (nI 1), .int (nI 200)]) (rest := []) (v := some (.int (fX8_isIn a2 (nI 1) (nI 200)))) ⟨hx, hb, hml, hown, hts⟩ (mX8_isIn l lo D E h  a2 (nI 1) (nI 200)  ) (va_cwS 3 hts gX8_further_X8_isIn rfl rfl rfl (by decide +kernel) ⟨Nat.le_of_ble_eq_true rfl, Nat.le_of_ble_eq_true rfl⟩) I rfl hl.1 rfl (Nat.le_of_ble_eq_true rfl) dX8_further_12 ⟨Nat.le_of_ble_eq_true rfl, Nat.le_of_ble_eq_true rfl⟩ ?_
    refine W.eq (g2 := F0 m 15 ls [.int (fX8_isIn a2 (nI 1) (nI 200))]) rfl ?_
    refine lv_if_eq (tgt := 22) hx hb dX8_further_15 (by decide) (fun c_15 => ?_) (fun c_15 => ?_)
    · skip
      rw [if_pos c_15] at hG
      refine lv_iconst (v := (nI 0)) hx hb dX8_further_22 (by decide) ?_
      refine lv_istore_n (lv' := [(3, .int (nI 0)), (0, .ref r), (1, .int a1), (2, .int a2)]) hx hb dX8_further_23 rfl hl (by decide) rfl (fun ls hl => ?_)
      refine lv_aload_n hx hb dX8_further_24 rfl (lv_at hl 1 rfl) ?_
      refine lv_iload_n hx hb dX8_further_25 rfl (lv_at hl 0 rfl) ?_
      refine lv_if_ne (tgt := 33) hx hb dX8_further_26 (by decide) (fun q => absurd (by decide) q) (fun _ => ?_)
      refine lv_iconst (v := (nI 1)) hx hb dX8_further_29 (by decide) ?_
      refine lv_goto (tgt := 60) hx hb dX8_further_30 (by decide) ?_
      refine xputM 0 hx hb hts hin8 hown I hS hR hF (by decide) (List.mem_of_getElem? (i := 3) rfl) rfl rfl rfl rfl rfl (hR.putTh _) dX8_further_60 (fun H locs hw I hR hF hS => ?_)
      refine lv_aload_n hx hb dX8_further_63 rfl (lv_at hl 1 rfl) ?_
      refine xget (C := RX8) (T := TX8) (N := 37) 0 hx hb hts hin8 hown I hR.1 rfl (by decide) (List.mem_of_getElem? (i := 3) rfl) rfl rfl dX8_further_64 ?_
      refine lv_if_le (tgt := 72) hx hb dX8_further_67 (by decide) (fun q => absurd q (by decide)) (fun _ => ?_)
      refine lv_iconst (v := (nI 0)) hx hb dX8_further_70 (by decide) ?_
      subst hG
      exact xriQ hx hb hr hlocks dX8_further_71 I hS ⟨rfl, hR, hF⟩
    · skip
      rw [if_neg c_15] at hG
      obtain ⟨e_a2, l_a2⟩ := ok_isIn (by decide) c_15
      refine lv_iconst (v := (nI 1)) hx hb dX8_further_18 (by decide) ?_
      refine lv_goto (tgt := 23) hx hb dX8_further_19 (by decide) ?_
      refine lv_istore_n (lv' := [(3, .int (nI 1)), (0, .ref r), (1, .int a1), (2, .int a2)]) hx hb dX8_further_23 rfl hl (by decide) rfl (fun ls hl => ?_)
      refine lv_aload_n hx hb dX8_further_24 rfl (lv_at hl 1 rfl) ?_
      refine lv_iload_n hx hb dX8_further_25 rfl (lv_at hl 0 rfl) ?_
      refine lv_if_ne (tgt := 33) hx hb dX8_further_26 (by decide) (fun _ => ?_) (fun q => absurd q (by decide))
      refine lv_iload_n hx hb dX8_further_33 rfl (lv_at hl 2 rfl) ?_
      refine xtop (y := .int (nI (tn a1))) (congrArg Value.int e_a1) ?_
      refine lv_aload_n hx hb dX8_further_34 rfl (lv_at hl 1 rfl) ?_
      refine xget (C := RX8) (T := TX8) (N := 37) 34 hx hb hts hin8 hown I hR.1 rfl (by decide) (List.mem_of_getElem? (i := 1) rfl) rfl rfl dX8_further_35 ?_
      refine lv_icmp_lt (tgt := 55) hx hb dX8_further_38 (by decide) (fun c_38 => ?_) (fun c_38 => ?_)
      · skip
        rw [if_pos c_38] at hG
        refine lv_iconst (v := (nI 2)) hx hb dX8_further_55 (by decide) ?_
        refine lv_goto (tgt := 60) hx hb dX8_further_56 (by decide) ?_
        refine xputM 0 hx hb hts hin8 hown I hS hR hF (by decide) (List.mem_of_getElem? (i := 3) rfl) rfl rfl rfl rfl rfl (hR.putTh _) dX8_further_60 (fun H locs hw I hR hF hS => ?_)
        refine lv_aload_n hx hb dX8_further_63 rfl (lv_at hl 1 rfl) ?_
        refine xget (C := RX8) (T := TX8) (N := 37) 0 hx hb hts hin8 hown I hR.1 rfl (by decide) (List.mem_of_getElem? (i := 3) rfl) rfl rfl dX8_further_64 ?_
        refine lv_if_le (tgt := 72) hx hb dX8_further_67 (by decide) (fun q => absurd q (by decide)) (fun _ => ?_)
        refine lv_iconst (v := (nI 0)) hx hb dX8_further_70 (by decide) ?_
        subst hG
        exact xriQ hx hb hr hlocks dX8_further_71 I hS ⟨rfl, hR, hF⟩
      · skip
        rw [if_neg c_38] at hG
        refine lv_aload_n hx hb dX8_further_41 rfl (lv_at hl 1 rfl) ?_
        refine xget (C := RX8) (T := TX8) (N := 37) 33 hx hb hts hin8 hown I hR.1 rfl (by decide) (List.mem_of_getElem? (i := 2) rfl) rfl rfl dX8_further_42 ?_
        refine lv_iload_n hx hb dX8_further_45 rfl (lv_at hl 2 rfl) ?_
        refine xtop (y := .int (nI (tn a1))) (congrArg Value.int e_a1) ?_
        refine xiald (i := (tn a1)) (n := 20) hx hb I (hR.2.1 33 20 (by decide)) (by omega) (by decide) dX8_further_46 ?_
        refine lv_iload_n hx hb dX8_further_47 rfl (lv_at hl 3 rfl) ?_
        refine xtop (y := .int (nI (tn a2))) (congrArg Value.int e_a2) ?_
        refine lv_iadd hx hb dX8_further_48 ?_
        refine lv_sipush (v := (nI 1000)) hx hb dX8_further_49 (by decide) ?_
        refine lv_icmp_le (tgt := 59) hx hb dX8_further_52 (by decide) (fun c_52 => ?_) (fun c_52 => ?_)
        · skip
          rw [if_pos c_52] at hG
          refine lv_iconst (v := (nI 0)) hx hb dX8_further_59 (by decide) ?_
          refine xputM 0 hx hb hts hin8 hown I hS hR hF (by decide) (List.mem_of_getElem? (i := 3) rfl) rfl rfl rfl rfl rfl (hR.putTh _) dX8_further_60 (fun H locs hw I hR hF hS => ?_)
          refine lv_aload_n hx hb dX8_further_63 rfl (lv_at hl 1 rfl) ?_
          refine xget (C := RX8) (T := TX8) (N := 37) 0 hx hb hts hin8 hown I hR.1 rfl (by decide) (List.mem_of_getElem? (i := 3) rfl) rfl rfl dX8_further_64 ?_
          refine lv_if_le (tgt := 72) hx hb dX8_further_67 (by decide) (fun _ => ?_) (fun q => absurd (by decide) q)
          refine lv_aload_n hx hb dX8_further_72 rfl (lv_at hl 1 rfl) ?_
          refine xget (C := RX8) (T := TX8) (N := 37) 33 hx hb hts hin8 hown I hR.1 rfl (by decide) (List.mem_of_getElem? (i := 2) rfl) rfl rfl dX8_further_73 ?_
          refine lv_iload_n hx hb dX8_further_76 rfl (lv_at hl 2 rfl) ?_
          refine xtop (y := .int (nI (tn a1))) (congrArg Value.int e_a1) ?_
          refine lv_dup2_11 hx hb dX8_further_77 rfl rfl ?_
          refine xiald (i := (tn a1)) (n := 20) hx hb I (hR.2.1 33 20 (by decide)) (by omega) (by decide) dX8_further_78 ?_
          refine lv_iload_n hx hb dX8_further_79 rfl (lv_at hl 3 rfl) ?_
          refine xtop (y := .int (nI (tn a2))) (congrArg Value.int e_a2) ?_
          refine lv_iadd hx hb dX8_further_80 ?_
          refine xiM (i := (tn a1)) (n := 20) 33 hx hb I hS hR hF (by decide) (by omega) (by decide) dX8_further_81 (fun H locs hw I hR hF hS => ?_)
          have hW := hW.sI (k := 33) (by decide) (tn a1) ((mI σ 33 (tn a1)) + (nI (tn a2)))
          refine lv_aload_n hx hb dX8_further_82 rfl (lv_at hl 1 rfl) ?_
          refine xget (C := RX8) (T := TX8) (N := 37) 33 hx hb hts hin8 hown I hR.1 rfl (by decide) (List.mem_of_getElem? (i := 2) rfl) rfl rfl dX8_further_83 ?_
          refine lv_iload_n hx hb dX8_further_86 rfl (lv_at hl 2 rfl) ?_
          refine xtop (y := .int (nI (tn a1))) (congrArg Value.int e_a1) ?_
          refine xiald (i := (tn a1)) (n := 20) hx hb I (hR.2.1 33 20 (by decide)) (by omega) (by decide) dX8_further_87 ?_
          subst hG
          exact xriQ hx hb hr hlocks dX8_further_88 I hS ⟨rfl, hR, hF⟩
        · skip
          rw [if_neg c_52] at hG
          refine lv_iconst (v := (nI 2)) hx hb dX8_further_55 (by decide) ?_
          refine lv_goto (tgt := 60) hx hb dX8_further_56 (by decide) ?_
          refine xputM 0 hx hb hts hin8 hown I hS hR hF (by decide) (List.mem_of_getElem? (i := 3) rfl) rfl rfl rfl rfl rfl (hR.putTh _) dX8_further_60 (fun H locs hw I hR hF hS => ?_)
          refine lv_aload_n hx hb dX8_further_63 rfl (lv_at hl 1 rfl) ?_
          refine xget (C := RX8) (T := TX8) (N := 37) 0 hx hb hts hin8 hown I hR.1 rfl (by decide) (List.mem_of_getElem? (i := 3) rfl) rfl rfl dX8_further_64 ?_
          refine lv_if_le (tgt := 72) hx hb dX8_further_67 (by decide) (fun q => absurd q (by decide)) (fun _ => ?_)
          refine lv_iconst (v := (nI 0)) hx hb dX8_further_70 (by decide) ?_
          subst hG
          exact xriQ hx hb hr hlocks dX8_further_71 I hS ⟨rfl, hR, hF⟩

def fX8_pay (σ : MT) (th : Int32) (a1 : Int32) (a2 : Int32) : Int64 × MT × Int32 := (if (fX8_isMember σ a1) = 0 then ((0 : Int64), σ, (nI 1)) else (if (fX8_isIn a2 (nI 1) (nI 1000000000)) = 0 then ((0 : Int64), σ, (nI 2)) else (if (fX8_owesOf (mSL σ 4 (tn a1) ((mL σ 4 (tn a1)) + (nI (tn a2)).toInt64)) (tn a1)) ≤ (0 : Int64) then ((fX8_owesOf (mSL σ 4 (tn a1) ((mL σ 4 (tn a1)) + (nI (tn a2)).toInt64)) (tn a1)), (mSI (mSL σ 4 (tn a1) ((mL σ 4 (tn a1)) + (nI (tn a2)).toInt64)) 5 (tn a1) (-1)), (nI 0)) else ((fX8_owesOf (mSL σ 4 (tn a1) ((mL σ 4 (tn a1)) + (nI (tn a2)).toInt64)) (tn a1)), (mSI (mSL σ 4 (tn a1) ((mL σ 4 (tn a1)) + (nI (tn a2)).toInt64)) 5 (tn a1) (mI σ 5 (tn a1))), (nI 0)))))
set_option maxHeartbeats 4000000 in
set_option maxRecDepth 100000 in
theorem mX8_pay (l : Launch) (lo : Nat) (D : va_G) (E : Nat → ClassId) (h : XW) (σ : MT) (th : Int32) (r : Nat) (ar : Nat → Nat) (hR : RM E σ th r ar h) (hW : MW σ) (a1 : Int32) (a2 : Int32) : Met l yX8_pay wsX8_pay ({ frames := 4, cells := 0, slots := 0, locals := 100 } : Room) (xP lo D E h [.ref r, .int a1, .int a2]) (xQ lo D (fun v h' => v = some (.long (fX8_pay σ th a1 a2).1) ∧ RM E (fX8_pay σ th a1 a2).2.1 (fX8_pay σ th a1 a2).2.2 r ar h' ∧ xF r ar h h')) 0 0 (xA lo) := by
  obtain ⟨G, hG⟩ : ∃ G, fX8_pay σ th a1 a2 = G := ⟨_, rfl⟩
  rw [hG]
  unfold fX8_pay at hG
  refine Met.ofW (cc := cX8_pay) (maxL := 5) (ret := (some .long)) (by decide) rfl ?_
  intro p e s m args below meth c s₁ B hml hv
  obtain ⟨rfl, I⟩ := hv
  have hx := B.exec
  have hb := B.bytes
  have hr := B.returns
  have hts := atoms_spec (ws := wsX8_pay) B.pre
  have hown : s.vm.findClass RX8 = some m.cls := findClass_of_methodNamed B.named
  have hlocks := B.notSynchronized
  have hl := lv_entry ([.ref r, .int a1, .int a2] : List Value) (n := 5) (Nat.le_of_ble_eq_true rfl)
  rw [lg_entry_eq]
  generalize (lg_sl ([.ref r, .int a1, .int a2] : List Value) ++ List.replicate (5 - (lg_sl ([.ref r, .int a1, .int a2] : List Value)).length) Slot.unset).toArray = ls at hl ⊢
  have hl : lv_has ls 5 [(0, .ref r), (1, .int a1), (2, .int a2)] := hl
  have hin8 : ∀ w ∈ u_ws RX8 TX8 37, w ∈ wsX8_pay := fun _ h => List.mem_cons_of_mem _ (List.mem_append_right _ (h))
  have hW0 := hW
  obtain ⟨⟨w1, w2, w3, w4, w5, w6, w7⟩, w9, w12, w21, w22, w23, w25, w31, z26, z27, z28, z36⟩ := id hW
  have hS : va_S (xA lo) s.heap s.heap [] := va_S.rf
  have hF : xF r ar h h := xF.rf
  refine lv_aload_n hx hb dX8_pay_0 rfl (lv_at hl 0 rfl) ?_
  refine lv_aload_n hx hb dX8_pay_1 rfl (lv_at hl 0 rfl) ?_
  refine lv_iload_n hx hb dX8_pay_2 rfl (lv_at hl 1 rfl) ?_
  refine xcvR (As := [.int a1]) (rest := [.ref r]) (v := some (.int (fX8_isMember σ a1))) ⟨hx, hb, hml, hown, hts⟩ (mX8_isMember l lo D E h σ th r ar hR hW a1  ) (cwV 1 hts gX8_pay_X8_isMember rfl rfl rfl (by decide +kernel) ⟨Nat.le_of_ble_eq_true rfl, Nat.le_of_ble_eq_true rfl⟩) I hR.1 rfl rfl hl.1 rfl (Nat.le_of_ble_eq_true rfl) dX8_pay_3 ⟨Nat.le_of_ble_eq_true rfl, Nat.le_of_ble_eq_true rfl⟩ ?_
  refine W.eq (g2 := F0 m 6 ls [.int (fX8_isMember σ a1), .ref r]) rfl ?_
  refine lv_if_ne (tgt := 13) hx hb dX8_pay_6 (by decide) (fun c_6 => ?_) (fun c_6 => ?_)
  · skip
    rw [if_neg c_6] at hG
    obtain ⟨e_a1, l_a1⟩ := ok_isMember hW c_6
    refine lv_iload_n hx hb dX8_pay_13 rfl (lv_at hl 2 rfl) ?_
    refine lv_iconst (v := (nI 1)) hx hb dX8_pay_14 (by decide) ?_
    refine lv_ldc (v := (nI 1000000000)) hx hb hown (hts _ (List.mem_of_getElem? (i := 1) rfl)) dX8_pay_15 ?_
    refine xcsR (As := [.int a2, .int (nI 1), .int (nI 1000000000)]) (rest := [.ref r]) (v := some (.int (fX8_isIn a2 (nI 1) (nI 1000000000)))) ⟨hx, hb, hml, hown, hts⟩ (mX8_isIn l lo D E h  a2 (nI 1) (nI 1000000000)  ) (va_cwS 3 hts gX8_pay_X8_isIn rfl rfl rfl (by decide +kernel) ⟨Nat.le_of_ble_eq_true rfl, Nat.le_of_ble_eq_true rfl⟩) I rfl hl.1 rfl (Nat.le_of_ble_eq_true rfl) dX8_pay_17 ⟨Nat.le_of_ble_eq_true rfl, Nat.le_of_ble_eq_true rfl⟩ ?_
    refine W.eq (g2 := F0 m 20 ls [.int (fX8_isIn a2 (nI 1) (nI 1000000000)), .ref r]) rfl ?_
    refine lv_if_ne (tgt := 27) hx hb dX8_pay_20 (by decide) (fun c_20 => ?_) (fun c_20 => ?_)
    · skip
      rw [if_neg c_20] at hG
      obtain ⟨e_a2, l_a2⟩ := ok_isIn (by decide) c_20
      refine lv_iconst (v := (nI 0)) hx hb dX8_pay_27 (by decide) ?_
      refine xputM 0 hx hb hts hin8 hown I hS hR hF (by decide) (List.mem_of_getElem? (i := 2) rfl) rfl rfl rfl rfl rfl (hR.putTh _) dX8_pay_28 (fun H locs hw I hR hF hS => ?_)
      refine lv_aload_n hx hb dX8_pay_31 rfl (lv_at hl 0 rfl) ?_
      refine xget (C := RX8) (T := TX8) (N := 37) 0 hx hb hts hin8 hown I hR.1 rfl (by decide) (List.mem_of_getElem? (i := 2) rfl) rfl rfl dX8_pay_32 ?_
      refine lv_if_le (tgt := 40) hx hb dX8_pay_35 (by decide) (fun _ => ?_) (fun q => absurd (by decide) q)
      refine lv_aload_n hx hb dX8_pay_40 rfl (lv_at hl 0 rfl) ?_
      refine xget (C := RX8) (T := TX8) (N := 37) 4 hx hb hts hin8 hown I hR.1 rfl (by decide) (List.mem_of_getElem? (i := 3) rfl) rfl rfl dX8_pay_41 ?_
      refine lv_iload_n hx hb dX8_pay_44 rfl (lv_at hl 1 rfl) ?_
      refine xtop (y := .int (nI (tn a1))) (congrArg Value.int e_a1) ?_
      refine lv_dup2_11 hx hb dX8_pay_45 rfl rfl ?_
      refine xlald (i := (tn a1)) (n := 12) hx hb I (hR.2.2.2.1 4 12 (by decide)) (by omega) (by decide) dX8_pay_46 ?_
      refine lv_iload_n hx hb dX8_pay_47 rfl (lv_at hl 2 rfl) ?_
      refine xtop (y := .int (nI (tn a2))) (congrArg Value.int e_a2) ?_
      refine lv_i2l (v := (nI (tn a2)).toInt64) hx hb dX8_pay_48 rfl ?_
      refine lv_ladd hx hb dX8_pay_49 ?_
      refine xlM (i := (tn a1)) (n := 12) 4 hx hb I hS hR hF (by decide) (by omega) (by decide) dX8_pay_50 (fun H locs hw I hR hF hS => ?_)
      have hW := hW.sL 4 (tn a1) ((mL σ 4 (tn a1)) + (nI (tn a2)).toInt64)
      refine lv_aload_n hx hb dX8_pay_51 rfl (lv_at hl 0 rfl) ?_
      refine lv_iload_n hx hb dX8_pay_52 rfl (lv_at hl 1 rfl) ?_
      refine xtop (y := .int (nI (tn a1))) (congrArg Value.int e_a1) ?_
      refine xcvR (As := [.int (nI (tn a1))]) (rest := []) (v := some (.long (fX8_owesOf (mSL σ 4 (tn a1) ((mL σ 4 (tn a1)) + (nI (tn a2)).toInt64)) (tn a1)))) ⟨hx, hb, hml, hown, hts⟩ (mX8_owesOf l lo D E hw (mSL σ 4 (tn a1) ((mL σ 4 (tn a1)) + (nI (tn a2)).toInt64)) (nI 0) r ar hR hW (tn a1)  (by first | assumption | omega)) (cwV 1 hts gX8_pay_X8_owesOf rfl rfl rfl (by decide +kernel) ⟨Nat.le_of_ble_eq_true rfl, Nat.le_of_ble_eq_true rfl⟩) I hR.1 rfl rfl hl.1 rfl (Nat.le_of_ble_eq_true rfl) dX8_pay_53 ⟨Nat.le_of_ble_eq_true rfl, Nat.le_of_ble_eq_true rfl⟩ ?_
      refine W.eq (g2 := F0 m 56 ls [.long (fX8_owesOf (mSL σ 4 (tn a1) ((mL σ 4 (tn a1)) + (nI (tn a2)).toInt64)) (tn a1))]) rfl ?_
      refine lv_lstore_n (lv' := [(3, .long (fX8_owesOf (mSL σ 4 (tn a1) ((mL σ 4 (tn a1)) + (nI (tn a2)).toInt64)) (tn a1))), (0, .ref r), (1, .int a1), (2, .int a2)]) hx hb dX8_pay_56 rfl hl (by decide) rfl (fun ls hl => ?_)
      refine lv_aload_n hx hb dX8_pay_57 rfl (lv_at hl 1 rfl) ?_
      refine xget (C := RX8) (T := TX8) (N := 37) 5 hx hb hts hin8 hown I hR.1 rfl (by decide) (List.mem_of_getElem? (i := 4) rfl) rfl rfl dX8_pay_58 ?_
      refine lv_iload_n hx hb dX8_pay_61 rfl (lv_at hl 2 rfl) ?_
      refine xtop (y := .int (nI (tn a1))) (congrArg Value.int e_a1) ?_
      refine lv_lload_n hx hb dX8_pay_62 rfl (lv_at hl 0 rfl) ?_
      refine lv_lconst (v := (0 : Int64)) hx hb dX8_pay_63 rfl ?_
      refine xl_le (tgt := 77) hx hb dX8_pay_64 dX8_pay_65 (by decide) (fun c_64 => ?_) (fun c_64 => ?_)
      · skip
        rw [if_pos c_64] at hG
        refine lv_iconst (v := (-1)) hx hb dX8_pay_77 (by decide) ?_
        refine xiM (i := (tn a1)) (n := 12) 5 hx hb I hS hR hF (by decide) (by omega) (by decide) dX8_pay_78 (fun H locs hw I hR hF hS => ?_)
        have hW := hW.sI (k := 5) (by decide) (tn a1) (-1)
        refine lv_lload_n hx hb dX8_pay_79 rfl (lv_at hl 0 rfl) ?_
        subst hG
        exact xrlQ hx hb hr hlocks dX8_pay_80 I hS ⟨rfl, hR, hF⟩
      · skip
        rw [if_neg c_64] at hG
        refine lv_aload_n hx hb dX8_pay_68 rfl (lv_at hl 1 rfl) ?_
        refine xget (C := RX8) (T := TX8) (N := 37) 5 hx hb hts hin8 hown I hR.1 rfl (by decide) (List.mem_of_getElem? (i := 4) rfl) rfl rfl dX8_pay_69 ?_
        refine lv_iload_n hx hb dX8_pay_72 rfl (lv_at hl 2 rfl) ?_
        refine xtop (y := .int (nI (tn a1))) (congrArg Value.int e_a1) ?_
        refine xiald (i := (tn a1)) (n := 12) hx hb I (hR.2.1 5 12 (by decide)) (by omega) (by decide) dX8_pay_73 ?_
        refine W.eq (g2 := F0 m 74 ls [.int (mI σ 5 (tn a1)), .int (nI (tn a1)), .ref (ar 5)]) rfl ?_
        refine lv_goto (tgt := 78) hx hb dX8_pay_74 (by decide) ?_
        refine xiM (i := (tn a1)) (n := 12) 5 hx hb I hS hR hF (by decide) (by omega) (by decide) dX8_pay_78 (fun H locs hw I hR hF hS => ?_)
        have hW := hW.sI (k := 5) (by decide) (tn a1) (mI σ 5 (tn a1))
        refine lv_lload_n hx hb dX8_pay_79 rfl (lv_at hl 0 rfl) ?_
        subst hG
        exact xrlQ hx hb hr hlocks dX8_pay_80 I hS ⟨rfl, hR, hF⟩
    · skip
      rw [if_pos c_20] at hG
      refine lv_iconst (v := (nI 2)) hx hb dX8_pay_23 (by decide) ?_
      refine lv_goto (tgt := 28) hx hb dX8_pay_24 (by decide) ?_
      refine xputM 0 hx hb hts hin8 hown I hS hR hF (by decide) (List.mem_of_getElem? (i := 2) rfl) rfl rfl rfl rfl rfl (hR.putTh _) dX8_pay_28 (fun H locs hw I hR hF hS => ?_)
      refine lv_aload_n hx hb dX8_pay_31 rfl (lv_at hl 0 rfl) ?_
      refine xget (C := RX8) (T := TX8) (N := 37) 0 hx hb hts hin8 hown I hR.1 rfl (by decide) (List.mem_of_getElem? (i := 2) rfl) rfl rfl dX8_pay_32 ?_
      refine lv_if_le (tgt := 40) hx hb dX8_pay_35 (by decide) (fun q => absurd q (by decide)) (fun _ => ?_)
      refine lv_lconst (v := (0 : Int64)) hx hb dX8_pay_38 rfl ?_
      subst hG
      exact xrlQ hx hb hr hlocks dX8_pay_39 I hS ⟨rfl, hR, hF⟩
  · skip
    rw [if_pos c_6] at hG
    refine lv_iconst (v := (nI 1)) hx hb dX8_pay_9 (by decide) ?_
    refine lv_goto (tgt := 28) hx hb dX8_pay_10 (by decide) ?_
    refine xputM 0 hx hb hts hin8 hown I hS hR hF (by decide) (List.mem_of_getElem? (i := 2) rfl) rfl rfl rfl rfl rfl (hR.putTh _) dX8_pay_28 (fun H locs hw I hR hF hS => ?_)
    refine lv_aload_n hx hb dX8_pay_31 rfl (lv_at hl 0 rfl) ?_
    refine xget (C := RX8) (T := TX8) (N := 37) 0 hx hb hts hin8 hown I hR.1 rfl (by decide) (List.mem_of_getElem? (i := 2) rfl) rfl rfl dX8_pay_32 ?_
    refine lv_if_le (tgt := 40) hx hb dX8_pay_35 (by decide) (fun q => absurd q (by decide)) (fun _ => ?_)
    refine lv_lconst (v := (0 : Int64)) hx hb dX8_pay_38 rfl ?_
    subst hG
    exact xrlQ hx hb hr hlocks dX8_pay_39 I hS ⟨rfl, hR, hF⟩

def fX8_stop (σ : MT) (th : Int32) (a1 : Int32) (a2 : Int32) : Int32 × MT × Int32 := (if (fX8_isMember σ a1) = 0 then ((nI 0), σ, (nI 1)) else (if (fX8_isIn a2 (nI 0) (nI (mN σ 1))) = 0 then ((nI 0), σ, (nI 2)) else (if (0 : Int64) < (fX8_owesOf σ (tn a1)) then ((mI σ 5 (tn a1)), (mSI σ 5 (tn a1) (nI (tn a2))), (nI 0)) else ((nI 0), σ, (nI 3)))))
set_option maxHeartbeats 4000000 in
set_option maxRecDepth 100000 in
theorem mX8_stop (l : Launch) (lo : Nat) (D : va_G) (E : Nat → ClassId) (h : XW) (σ : MT) (th : Int32) (r : Nat) (ar : Nat → Nat) (hR : RM E σ th r ar h) (hW : MW σ) (a1 : Int32) (a2 : Int32) : Met l yX8_stop wsX8_stop ({ frames := 4, cells := 0, slots := 0, locals := 100 } : Room) (xP lo D E h [.ref r, .int a1, .int a2]) (xQ lo D (fun v h' => v = some (.int (fX8_stop σ th a1 a2).1) ∧ RM E (fX8_stop σ th a1 a2).2.1 (fX8_stop σ th a1 a2).2.2 r ar h' ∧ xF r ar h h')) 0 0 (xA lo) := by
  obtain ⟨G, hG⟩ : ∃ G, fX8_stop σ th a1 a2 = G := ⟨_, rfl⟩
  rw [hG]
  unfold fX8_stop at hG
  refine Met.ofW (cc := cX8_stop) (maxL := 5) (ret := (some .int)) (by decide) rfl ?_
  intro p e s m args below meth c s₁ B hml hv
  obtain ⟨rfl, I⟩ := hv
  have hx := B.exec
  have hb := B.bytes
  have hr := B.returns
  have hts := atoms_spec (ws := wsX8_stop) B.pre
  have hown : s.vm.findClass RX8 = some m.cls := findClass_of_methodNamed B.named
  have hlocks := B.notSynchronized
  have hl := lv_entry ([.ref r, .int a1, .int a2] : List Value) (n := 5) (Nat.le_of_ble_eq_true rfl)
  rw [lg_entry_eq]
  generalize (lg_sl ([.ref r, .int a1, .int a2] : List Value) ++ List.replicate (5 - (lg_sl ([.ref r, .int a1, .int a2] : List Value)).length) Slot.unset).toArray = ls at hl ⊢
  have hl : lv_has ls 5 [(0, .ref r), (1, .int a1), (2, .int a2)] := hl
  have hin8 : ∀ w ∈ u_ws RX8 TX8 37, w ∈ wsX8_stop := fun _ h => List.mem_cons_of_mem _ (List.mem_append_right _ (h))
  have hW0 := hW
  obtain ⟨⟨w1, w2, w3, w4, w5, w6, w7⟩, w9, w12, w21, w22, w23, w25, w31, z26, z27, z28, z36⟩ := id hW
  have hS : va_S (xA lo) s.heap s.heap [] := va_S.rf
  have hF : xF r ar h h := xF.rf
  refine lv_aload_n hx hb dX8_stop_0 rfl (lv_at hl 0 rfl) ?_
  refine lv_iload_n hx hb dX8_stop_1 rfl (lv_at hl 1 rfl) ?_
  refine xcvR (As := [.int a1]) (rest := []) (v := some (.int (fX8_isMember σ a1))) ⟨hx, hb, hml, hown, hts⟩ (mX8_isMember l lo D E h σ th r ar hR hW a1  ) (cwV 1 hts gX8_stop_X8_isMember rfl rfl rfl (by decide +kernel) ⟨Nat.le_of_ble_eq_true rfl, Nat.le_of_ble_eq_true rfl⟩) I hR.1 rfl rfl hl.1 rfl (Nat.le_of_ble_eq_true rfl) dX8_stop_2 ⟨Nat.le_of_ble_eq_true rfl, Nat.le_of_ble_eq_true rfl⟩ ?_
  refine W.eq (g2 := F0 m 5 ls [.int (fX8_isMember σ a1)]) rfl ?_
  refine lv_istore_n (lv' := [(3, .int (fX8_isMember σ a1)), (0, .ref r), (1, .int a1), (2, .int a2)]) hx hb dX8_stop_5 rfl hl (by decide) rfl (fun ls hl => ?_)
  refine lv_aload_n hx hb dX8_stop_6 rfl (lv_at hl 1 rfl) ?_
  refine lv_iload_n hx hb dX8_stop_7 rfl (lv_at hl 0 rfl) ?_
  refine lv_if_ne (tgt := 15) hx hb dX8_stop_8 (by decide) (fun c_8 => ?_) (fun c_8 => ?_)
  · skip
    rw [if_neg c_8] at hG
    obtain ⟨e_a1, l_a1⟩ := ok_isMember hW c_8
    refine lv_iload_n hx hb dX8_stop_15 rfl (lv_at hl 3 rfl) ?_
    refine lv_iconst (v := (nI 0)) hx hb dX8_stop_16 (by decide) ?_
    refine lv_aload_n hx hb dX8_stop_17 rfl (lv_at hl 1 rfl) ?_
    refine xget (C := RX8) (T := TX8) (N := 37) 1 hx hb hts hin8 hown I hR.1 rfl (by decide) (List.mem_of_getElem? (i := 1) rfl) rfl rfl dX8_stop_18 ?_
    refine xcsR (As := [.int a2, .int (nI 0), .int (nI (mN σ 1))]) (rest := [.ref r]) (v := some (.int (fX8_isIn a2 (nI 0) (nI (mN σ 1))))) ⟨hx, hb, hml, hown, hts⟩ (mX8_isIn l lo D E h  a2 (nI 0) (nI (mN σ 1))  ) (va_cwS 3 hts gX8_stop_X8_isIn rfl rfl rfl (by decide +kernel) ⟨Nat.le_of_ble_eq_true rfl, Nat.le_of_ble_eq_true rfl⟩) I rfl hl.1 rfl (Nat.le_of_ble_eq_true rfl) dX8_stop_21 ⟨Nat.le_of_ble_eq_true rfl, Nat.le_of_ble_eq_true rfl⟩ ?_
    refine W.eq (g2 := F0 m 24 ls [.int (fX8_isIn a2 (nI 0) (nI (mN σ 1))), .ref r]) rfl ?_
    refine lv_if_ne (tgt := 31) hx hb dX8_stop_24 (by decide) (fun c_24 => ?_) (fun c_24 => ?_)
    · skip
      rw [if_neg c_24] at hG
      obtain ⟨e_a2, l_a2⟩ := ok_isIn (by omega) c_24
      refine lv_aload_n hx hb dX8_stop_31 rfl (lv_at hl 1 rfl) ?_
      refine lv_iload_n hx hb dX8_stop_32 rfl (lv_at hl 2 rfl) ?_
      refine xtop (y := .int (nI (tn a1))) (congrArg Value.int e_a1) ?_
      refine xcvR (As := [.int (nI (tn a1))]) (rest := [.ref r]) (v := some (.long (fX8_owesOf σ (tn a1)))) ⟨hx, hb, hml, hown, hts⟩ (mX8_owesOf l lo D E h σ th r ar hR hW (tn a1)  (by first | assumption | omega)) (cwV 1 hts gX8_stop_X8_owesOf rfl rfl rfl (by decide +kernel) ⟨Nat.le_of_ble_eq_true rfl, Nat.le_of_ble_eq_true rfl⟩) I hR.1 rfl rfl hl.1 rfl (Nat.le_of_ble_eq_true rfl) dX8_stop_33 ⟨Nat.le_of_ble_eq_true rfl, Nat.le_of_ble_eq_true rfl⟩ ?_
      refine W.eq (g2 := F0 m 36 ls [.long (fX8_owesOf σ (tn a1)), .ref r]) rfl ?_
      refine lv_lconst (v := (0 : Int64)) hx hb dX8_stop_36 rfl ?_
      refine xl_gt (tgt := 45) hx hb dX8_stop_37 dX8_stop_38 (by decide) (fun c_37 => ?_) (fun c_37 => ?_)
      · skip
        rw [if_pos c_37] at hG
        refine lv_iconst (v := (nI 0)) hx hb dX8_stop_45 (by decide) ?_
        refine xputM 0 hx hb hts hin8 hown I hS hR hF (by decide) (List.mem_of_getElem? (i := 2) rfl) rfl rfl rfl rfl rfl (hR.putTh _) dX8_stop_46 (fun H locs hw I hR hF hS => ?_)
        refine lv_aload_n hx hb dX8_stop_49 rfl (lv_at hl 1 rfl) ?_
        refine xget (C := RX8) (T := TX8) (N := 37) 0 hx hb hts hin8 hown I hR.1 rfl (by decide) (List.mem_of_getElem? (i := 2) rfl) rfl rfl dX8_stop_50 ?_
        refine lv_if_le (tgt := 58) hx hb dX8_stop_53 (by decide) (fun _ => ?_) (fun q => absurd (by decide) q)
        refine lv_aload_n hx hb dX8_stop_58 rfl (lv_at hl 1 rfl) ?_
        refine xget (C := RX8) (T := TX8) (N := 37) 5 hx hb hts hin8 hown I hR.1 rfl (by decide) (List.mem_of_getElem? (i := 3) rfl) rfl rfl dX8_stop_59 ?_
        refine lv_iload_n hx hb dX8_stop_62 rfl (lv_at hl 2 rfl) ?_
        refine xtop (y := .int (nI (tn a1))) (congrArg Value.int e_a1) ?_
        refine xiald (i := (tn a1)) (n := 12) hx hb I (hR.2.1 5 12 (by decide)) (by omega) (by decide) dX8_stop_63 ?_
        refine lv_istore (lv' := [(4, .int (mI σ 5 (tn a1))), (3, .int (fX8_isMember σ a1)), (0, .ref r), (1, .int a1), (2, .int a2)]) hx hb dX8_stop_64 hl (by decide) rfl (fun ls hl => ?_)
        refine lv_aload_n hx hb dX8_stop_66 rfl (lv_at hl 2 rfl) ?_
        refine xget (C := RX8) (T := TX8) (N := 37) 5 hx hb hts hin8 hown I hR.1 rfl (by decide) (List.mem_of_getElem? (i := 3) rfl) rfl rfl dX8_stop_67 ?_
        refine lv_iload_n hx hb dX8_stop_70 rfl (lv_at hl 3 rfl) ?_
        refine xtop (y := .int (nI (tn a1))) (congrArg Value.int e_a1) ?_
        refine lv_iload_n hx hb dX8_stop_71 rfl (lv_at hl 4 rfl) ?_
        refine xtop (y := .int (nI (tn a2))) (congrArg Value.int e_a2) ?_
        refine xiM (i := (tn a1)) (n := 12) 5 hx hb I hS hR hF (by decide) (by omega) (by decide) dX8_stop_72 (fun H locs hw I hR hF hS => ?_)
        have hW := hW.sI (k := 5) (by decide) (tn a1) (nI (tn a2))
        refine lv_iload hx hb dX8_stop_73 (lv_at hl 0 rfl) ?_
        subst hG
        exact xriQ hx hb hr hlocks dX8_stop_75 I hS ⟨rfl, hR, hF⟩
      · skip
        rw [if_neg c_37] at hG
        refine lv_iconst (v := (nI 3)) hx hb dX8_stop_41 (by decide) ?_
        refine lv_goto (tgt := 46) hx hb dX8_stop_42 (by decide) ?_
        refine xputM 0 hx hb hts hin8 hown I hS hR hF (by decide) (List.mem_of_getElem? (i := 2) rfl) rfl rfl rfl rfl rfl (hR.putTh _) dX8_stop_46 (fun H locs hw I hR hF hS => ?_)
        refine lv_aload_n hx hb dX8_stop_49 rfl (lv_at hl 1 rfl) ?_
        refine xget (C := RX8) (T := TX8) (N := 37) 0 hx hb hts hin8 hown I hR.1 rfl (by decide) (List.mem_of_getElem? (i := 2) rfl) rfl rfl dX8_stop_50 ?_
        refine lv_if_le (tgt := 58) hx hb dX8_stop_53 (by decide) (fun q => absurd q (by decide)) (fun _ => ?_)
        refine lv_iconst (v := (nI 0)) hx hb dX8_stop_56 (by decide) ?_
        subst hG
        exact xriQ hx hb hr hlocks dX8_stop_57 I hS ⟨rfl, hR, hF⟩
    · skip
      rw [if_pos c_24] at hG
      refine lv_iconst (v := (nI 2)) hx hb dX8_stop_27 (by decide) ?_
      refine lv_goto (tgt := 46) hx hb dX8_stop_28 (by decide) ?_
      refine xputM 0 hx hb hts hin8 hown I hS hR hF (by decide) (List.mem_of_getElem? (i := 2) rfl) rfl rfl rfl rfl rfl (hR.putTh _) dX8_stop_46 (fun H locs hw I hR hF hS => ?_)
      refine lv_aload_n hx hb dX8_stop_49 rfl (lv_at hl 1 rfl) ?_
      refine xget (C := RX8) (T := TX8) (N := 37) 0 hx hb hts hin8 hown I hR.1 rfl (by decide) (List.mem_of_getElem? (i := 2) rfl) rfl rfl dX8_stop_50 ?_
      refine lv_if_le (tgt := 58) hx hb dX8_stop_53 (by decide) (fun q => absurd q (by decide)) (fun _ => ?_)
      refine lv_iconst (v := (nI 0)) hx hb dX8_stop_56 (by decide) ?_
      subst hG
      exact xriQ hx hb hr hlocks dX8_stop_57 I hS ⟨rfl, hR, hF⟩
  · skip
    rw [if_pos c_8] at hG
    refine lv_iconst (v := (nI 1)) hx hb dX8_stop_11 (by decide) ?_
    refine lv_goto (tgt := 46) hx hb dX8_stop_12 (by decide) ?_
    refine xputM 0 hx hb hts hin8 hown I hS hR hF (by decide) (List.mem_of_getElem? (i := 2) rfl) rfl rfl rfl rfl rfl (hR.putTh _) dX8_stop_46 (fun H locs hw I hR hF hS => ?_)
    refine lv_aload_n hx hb dX8_stop_49 rfl (lv_at hl 1 rfl) ?_
    refine xget (C := RX8) (T := TX8) (N := 37) 0 hx hb hts hin8 hown I hR.1 rfl (by decide) (List.mem_of_getElem? (i := 2) rfl) rfl rfl dX8_stop_50 ?_
    refine lv_if_le (tgt := 58) hx hb dX8_stop_53 (by decide) (fun q => absurd q (by decide)) (fun _ => ?_)
    refine lv_iconst (v := (nI 0)) hx hb dX8_stop_56 (by decide) ?_
    subst hG
    exact xriQ hx hb hr hlocks dX8_stop_57 I hS ⟨rfl, hR, hF⟩

def fX8_due (σ : MT) (th : Int32) (a1 : Int32) (a2 : Int32) : Int64 × MT × Int32 := (if (fX8_isMember σ a1) = 0 then ((0 : Int64), σ, (nI 1)) else (if (fX8_isYear a2) = 0 then ((0 : Int64), σ, (nI 2)) else ((fX8_dueOf σ (tn a1) (tn a2)), σ, (nI 0))))
set_option maxHeartbeats 4000000 in
set_option maxRecDepth 100000 in
theorem mX8_due (l : Launch) (lo : Nat) (D : va_G) (E : Nat → ClassId) (h : XW) (σ : MT) (th : Int32) (r : Nat) (ar : Nat → Nat) (hR : RM E σ th r ar h) (hW : MW σ) (a1 : Int32) (a2 : Int32) : Met l yX8_due wsX8_due ({ frames := 3, cells := 0, slots := 0, locals := 76 } : Room) (xP lo D E h [.ref r, .int a1, .int a2]) (xQ lo D (fun v h' => v = some (.long (fX8_due σ th a1 a2).1) ∧ RM E (fX8_due σ th a1 a2).2.1 (fX8_due σ th a1 a2).2.2 r ar h' ∧ xF r ar h h')) 0 0 (xA lo) := by
  obtain ⟨G, hG⟩ : ∃ G, fX8_due σ th a1 a2 = G := ⟨_, rfl⟩
  rw [hG]
  unfold fX8_due at hG
  refine Met.ofW (cc := cX8_due) (maxL := 3) (ret := (some .long)) (by decide) rfl ?_
  intro p e s m args below meth c s₁ B hml hv
  obtain ⟨rfl, I⟩ := hv
  have hx := B.exec
  have hb := B.bytes
  have hr := B.returns
  have hts := atoms_spec (ws := wsX8_due) B.pre
  have hown : s.vm.findClass RX8 = some m.cls := findClass_of_methodNamed B.named
  have hlocks := B.notSynchronized
  have hl := lv_entry ([.ref r, .int a1, .int a2] : List Value) (n := 3) (Nat.le_of_ble_eq_true rfl)
  rw [lg_entry_eq]
  generalize (lg_sl ([.ref r, .int a1, .int a2] : List Value) ++ List.replicate (3 - (lg_sl ([.ref r, .int a1, .int a2] : List Value)).length) Slot.unset).toArray = ls at hl ⊢
  have hl : lv_has ls 3 [(0, .ref r), (1, .int a1), (2, .int a2)] := hl
  have hin8 : ∀ w ∈ u_ws RX8 TX8 37, w ∈ wsX8_due := fun _ h => List.mem_cons_of_mem _ (List.mem_append_right _ (h))
  have hW0 := hW
  obtain ⟨⟨w1, w2, w3, w4, w5, w6, w7⟩, w9, w12, w21, w22, w23, w25, w31, z26, z27, z28, z36⟩ := id hW
  have hS : va_S (xA lo) s.heap s.heap [] := va_S.rf
  have hF : xF r ar h h := xF.rf
  refine lv_aload_n hx hb dX8_due_0 rfl (lv_at hl 0 rfl) ?_
  refine lv_aload_n hx hb dX8_due_1 rfl (lv_at hl 0 rfl) ?_
  refine lv_iload_n hx hb dX8_due_2 rfl (lv_at hl 1 rfl) ?_
  refine xcvR (As := [.int a1]) (rest := [.ref r]) (v := some (.int (fX8_isMember σ a1))) ⟨hx, hb, hml, hown, hts⟩ (mX8_isMember l lo D E h σ th r ar hR hW a1  ) (cwV 1 hts gX8_due_X8_isMember rfl rfl rfl (by decide +kernel) ⟨Nat.le_of_ble_eq_true rfl, Nat.le_of_ble_eq_true rfl⟩) I hR.1 rfl rfl hl.1 rfl (Nat.le_of_ble_eq_true rfl) dX8_due_3 ⟨Nat.le_of_ble_eq_true rfl, Nat.le_of_ble_eq_true rfl⟩ ?_
  refine W.eq (g2 := F0 m 6 ls [.int (fX8_isMember σ a1), .ref r]) rfl ?_
  refine lv_if_ne (tgt := 13) hx hb dX8_due_6 (by decide) (fun c_6 => ?_) (fun c_6 => ?_)
  · skip
    rw [if_neg c_6] at hG
    obtain ⟨e_a1, l_a1⟩ := ok_isMember hW c_6
    refine lv_iload_n hx hb dX8_due_13 rfl (lv_at hl 2 rfl) ?_
    refine xcsR (As := [.int a2]) (rest := [.ref r]) (v := some (.int (fX8_isYear a2))) ⟨hx, hb, hml, hown, hts⟩ (mX8_isYear l lo D E h  a2  ) (va_cwS 1 hts gX8_due_X8_isYear rfl rfl rfl (by decide +kernel) ⟨Nat.le_of_ble_eq_true rfl, Nat.le_of_ble_eq_true rfl⟩) I rfl hl.1 rfl (Nat.le_of_ble_eq_true rfl) dX8_due_14 ⟨Nat.le_of_ble_eq_true rfl, Nat.le_of_ble_eq_true rfl⟩ ?_
    refine W.eq (g2 := F0 m 17 ls [.int (fX8_isYear a2), .ref r]) rfl ?_
    refine lv_if_ne (tgt := 24) hx hb dX8_due_17 (by decide) (fun c_17 => ?_) (fun c_17 => ?_)
    · skip
      rw [if_neg c_17] at hG
      obtain ⟨e_a2, l_a2⟩ := ok_isYear c_17
      refine lv_iconst (v := (nI 0)) hx hb dX8_due_24 (by decide) ?_
      refine xputM 0 hx hb hts hin8 hown I hS hR hF (by decide) (List.mem_of_getElem? (i := 1) rfl) rfl rfl rfl rfl rfl (hR.putTh _) dX8_due_25 (fun H locs hw I hR hF hS => ?_)
      refine lv_aload_n hx hb dX8_due_28 rfl (lv_at hl 0 rfl) ?_
      refine xget (C := RX8) (T := TX8) (N := 37) 0 hx hb hts hin8 hown I hR.1 rfl (by decide) (List.mem_of_getElem? (i := 1) rfl) rfl rfl dX8_due_29 ?_
      refine lv_if_le (tgt := 39) hx hb dX8_due_32 (by decide) (fun _ => ?_) (fun q => absurd (by decide) q)
      refine lv_aload_n hx hb dX8_due_39 rfl (lv_at hl 0 rfl) ?_
      refine lv_iload_n hx hb dX8_due_40 rfl (lv_at hl 1 rfl) ?_
      refine xtop (y := .int (nI (tn a1))) (congrArg Value.int e_a1) ?_
      refine lv_iload_n hx hb dX8_due_41 rfl (lv_at hl 2 rfl) ?_
      refine xtop (y := .int (nI (tn a2))) (congrArg Value.int e_a2) ?_
      refine xcvR (As := [.int (nI (tn a1)), .int (nI (tn a2))]) (rest := []) (v := some (.long (fX8_dueOf σ (tn a1) (tn a2)))) ⟨hx, hb, hml, hown, hts⟩ (mX8_dueOf l lo D E hw σ (nI 0) r ar hR hW (tn a1) (tn a2)  (by first | assumption | omega) (by first | assumption | omega)) (cwV 2 hts gX8_due_X8_dueOf rfl rfl rfl (by decide +kernel) ⟨Nat.le_of_ble_eq_true rfl, Nat.le_of_ble_eq_true rfl⟩) I hR.1 rfl rfl hl.1 rfl (Nat.le_of_ble_eq_true rfl) dX8_due_42 ⟨Nat.le_of_ble_eq_true rfl, Nat.le_of_ble_eq_true rfl⟩ ?_
      refine W.eq (g2 := F0 m 45 ls [.long (fX8_dueOf σ (tn a1) (tn a2))]) rfl ?_
      subst hG
      exact xrlQ hx hb hr hlocks dX8_due_45 I hS ⟨rfl, hR, hF⟩
    · skip
      rw [if_pos c_17] at hG
      refine lv_iconst (v := (nI 2)) hx hb dX8_due_20 (by decide) ?_
      refine lv_goto (tgt := 25) hx hb dX8_due_21 (by decide) ?_
      refine xputM 0 hx hb hts hin8 hown I hS hR hF (by decide) (List.mem_of_getElem? (i := 1) rfl) rfl rfl rfl rfl rfl (hR.putTh _) dX8_due_25 (fun H locs hw I hR hF hS => ?_)
      refine lv_aload_n hx hb dX8_due_28 rfl (lv_at hl 0 rfl) ?_
      refine xget (C := RX8) (T := TX8) (N := 37) 0 hx hb hts hin8 hown I hR.1 rfl (by decide) (List.mem_of_getElem? (i := 1) rfl) rfl rfl dX8_due_29 ?_
      refine lv_if_le (tgt := 39) hx hb dX8_due_32 (by decide) (fun q => absurd q (by decide)) (fun _ => ?_)
      refine lv_lconst (v := (0 : Int64)) hx hb dX8_due_35 rfl ?_
      refine lv_goto (tgt := 45) hx hb dX8_due_36 (by decide) ?_
      subst hG
      exact xrlQ hx hb hr hlocks dX8_due_45 I hS ⟨rfl, hR, hF⟩
  · skip
    rw [if_pos c_6] at hG
    refine lv_iconst (v := (nI 1)) hx hb dX8_due_9 (by decide) ?_
    refine lv_goto (tgt := 25) hx hb dX8_due_10 (by decide) ?_
    refine xputM 0 hx hb hts hin8 hown I hS hR hF (by decide) (List.mem_of_getElem? (i := 1) rfl) rfl rfl rfl rfl rfl (hR.putTh _) dX8_due_25 (fun H locs hw I hR hF hS => ?_)
    refine lv_aload_n hx hb dX8_due_28 rfl (lv_at hl 0 rfl) ?_
    refine xget (C := RX8) (T := TX8) (N := 37) 0 hx hb hts hin8 hown I hR.1 rfl (by decide) (List.mem_of_getElem? (i := 1) rfl) rfl rfl dX8_due_29 ?_
    refine lv_if_le (tgt := 39) hx hb dX8_due_32 (by decide) (fun q => absurd q (by decide)) (fun _ => ?_)
    refine lv_lconst (v := (0 : Int64)) hx hb dX8_due_35 rfl ?_
    refine lv_goto (tgt := 45) hx hb dX8_due_36 (by decide) ?_
    subst hG
    exact xrlQ hx hb hr hlocks dX8_due_45 I hS ⟨rfl, hR, hF⟩

def fX8_owes (σ : MT) (th : Int32) (a1 : Int32) : Int64 × MT × Int32 := (if (fX8_isMember σ a1) = 0 then ((0 : Int64), σ, (nI 1)) else ((fX8_owesOf σ (tn a1)), σ, (nI 0)))
set_option maxHeartbeats 4000000 in
set_option maxRecDepth 100000 in
theorem mX8_owes (l : Launch) (lo : Nat) (D : va_G) (E : Nat → ClassId) (h : XW) (σ : MT) (th : Int32) (r : Nat) (ar : Nat → Nat) (hR : RM E σ th r ar h) (hW : MW σ) (a1 : Int32) : Met l yX8_owes wsX8_owes ({ frames := 4, cells := 0, slots := 0, locals := 100 } : Room) (xP lo D E h [.ref r, .int a1]) (xQ lo D (fun v h' => v = some (.long (fX8_owes σ th a1).1) ∧ RM E (fX8_owes σ th a1).2.1 (fX8_owes σ th a1).2.2 r ar h' ∧ xF r ar h h')) 0 0 (xA lo) := by
  obtain ⟨G, hG⟩ : ∃ G, fX8_owes σ th a1 = G := ⟨_, rfl⟩
  rw [hG]
  unfold fX8_owes at hG
  refine Met.ofW (cc := cX8_owes) (maxL := 2) (ret := (some .long)) (by decide) rfl ?_
  intro p e s m args below meth c s₁ B hml hv
  obtain ⟨rfl, I⟩ := hv
  have hx := B.exec
  have hb := B.bytes
  have hr := B.returns
  have hts := atoms_spec (ws := wsX8_owes) B.pre
  have hown : s.vm.findClass RX8 = some m.cls := findClass_of_methodNamed B.named
  have hlocks := B.notSynchronized
  have hl := lv_entry ([.ref r, .int a1] : List Value) (n := 2) (Nat.le_of_ble_eq_true rfl)
  rw [lg_entry_eq]
  generalize (lg_sl ([.ref r, .int a1] : List Value) ++ List.replicate (2 - (lg_sl ([.ref r, .int a1] : List Value)).length) Slot.unset).toArray = ls at hl ⊢
  have hl : lv_has ls 2 [(0, .ref r), (1, .int a1)] := hl
  have hin8 : ∀ w ∈ u_ws RX8 TX8 37, w ∈ wsX8_owes := fun _ h => List.mem_cons_of_mem _ (List.mem_append_right _ (h))
  have hW0 := hW
  obtain ⟨⟨w1, w2, w3, w4, w5, w6, w7⟩, w9, w12, w21, w22, w23, w25, w31, z26, z27, z28, z36⟩ := id hW
  have hS : va_S (xA lo) s.heap s.heap [] := va_S.rf
  have hF : xF r ar h h := xF.rf
  refine lv_aload_n hx hb dX8_owes_0 rfl (lv_at hl 0 rfl) ?_
  refine lv_aload_n hx hb dX8_owes_1 rfl (lv_at hl 0 rfl) ?_
  refine lv_iload_n hx hb dX8_owes_2 rfl (lv_at hl 1 rfl) ?_
  refine xcvR (As := [.int a1]) (rest := [.ref r]) (v := some (.int (fX8_isMember σ a1))) ⟨hx, hb, hml, hown, hts⟩ (mX8_isMember l lo D E h σ th r ar hR hW a1  ) (cwV 1 hts gX8_owes_X8_isMember rfl rfl rfl (by decide +kernel) ⟨Nat.le_of_ble_eq_true rfl, Nat.le_of_ble_eq_true rfl⟩) I hR.1 rfl rfl hl.1 rfl (Nat.le_of_ble_eq_true rfl) dX8_owes_3 ⟨Nat.le_of_ble_eq_true rfl, Nat.le_of_ble_eq_true rfl⟩ ?_
  refine W.eq (g2 := F0 m 6 ls [.int (fX8_isMember σ a1), .ref r]) rfl ?_
  refine lv_if_eq (tgt := 13) hx hb dX8_owes_6 (by decide) (fun c_6 => ?_) (fun c_6 => ?_)
  · skip
    rw [if_pos c_6] at hG
    refine lv_iconst (v := (nI 1)) hx hb dX8_owes_13 (by decide) ?_
    refine xputM 0 hx hb hts hin8 hown I hS hR hF (by decide) (List.mem_of_getElem? (i := 1) rfl) rfl rfl rfl rfl rfl (hR.putTh _) dX8_owes_14 (fun H locs hw I hR hF hS => ?_)
    refine lv_aload_n hx hb dX8_owes_17 rfl (lv_at hl 0 rfl) ?_
    refine xget (C := RX8) (T := TX8) (N := 37) 0 hx hb hts hin8 hown I hR.1 rfl (by decide) (List.mem_of_getElem? (i := 1) rfl) rfl rfl dX8_owes_18 ?_
    refine lv_if_le (tgt := 28) hx hb dX8_owes_21 (by decide) (fun q => absurd q (by decide)) (fun _ => ?_)
    refine lv_lconst (v := (0 : Int64)) hx hb dX8_owes_24 rfl ?_
    refine lv_goto (tgt := 33) hx hb dX8_owes_25 (by decide) ?_
    subst hG
    exact xrlQ hx hb hr hlocks dX8_owes_33 I hS ⟨rfl, hR, hF⟩
  · skip
    rw [if_neg c_6] at hG
    obtain ⟨e_a1, l_a1⟩ := ok_isMember hW c_6
    refine lv_iconst (v := (nI 0)) hx hb dX8_owes_9 (by decide) ?_
    refine lv_goto (tgt := 14) hx hb dX8_owes_10 (by decide) ?_
    refine xputM 0 hx hb hts hin8 hown I hS hR hF (by decide) (List.mem_of_getElem? (i := 1) rfl) rfl rfl rfl rfl rfl (hR.putTh _) dX8_owes_14 (fun H locs hw I hR hF hS => ?_)
    refine lv_aload_n hx hb dX8_owes_17 rfl (lv_at hl 0 rfl) ?_
    refine xget (C := RX8) (T := TX8) (N := 37) 0 hx hb hts hin8 hown I hR.1 rfl (by decide) (List.mem_of_getElem? (i := 1) rfl) rfl rfl dX8_owes_18 ?_
    refine lv_if_le (tgt := 28) hx hb dX8_owes_21 (by decide) (fun _ => ?_) (fun q => absurd (by decide) q)
    refine lv_aload_n hx hb dX8_owes_28 rfl (lv_at hl 0 rfl) ?_
    refine lv_iload_n hx hb dX8_owes_29 rfl (lv_at hl 1 rfl) ?_
    refine xtop (y := .int (nI (tn a1))) (congrArg Value.int e_a1) ?_
    refine xcvR (As := [.int (nI (tn a1))]) (rest := []) (v := some (.long (fX8_owesOf σ (tn a1)))) ⟨hx, hb, hml, hown, hts⟩ (mX8_owesOf l lo D E hw σ (nI 0) r ar hR hW (tn a1)  (by first | assumption | omega)) (cwV 1 hts gX8_owes_X8_owesOf rfl rfl rfl (by decide +kernel) ⟨Nat.le_of_ble_eq_true rfl, Nat.le_of_ble_eq_true rfl⟩) I hR.1 rfl rfl hl.1 rfl (Nat.le_of_ble_eq_true rfl) dX8_owes_30 ⟨Nat.le_of_ble_eq_true rfl, Nat.le_of_ble_eq_true rfl⟩ ?_
    refine W.eq (g2 := F0 m 33 ls [.long (fX8_owesOf σ (tn a1))]) rfl ?_
    subst hG
    exact xrlQ hx hb hr hlocks dX8_owes_33 I hS ⟨rfl, hR, hF⟩

def fX8_isClosed (σ : MT) (th : Int32) (a1 : Int32) : Int32 × MT × Int32 := (if (fX8_isYear a1) = 0 then ((nI 0), σ, (nI 1)) else (if (nI (mN σ 34)) ≤ (nI (tn a1)) then ((nI 0), σ, (nI 0)) else ((nI 1), σ, (nI 0))))
set_option maxHeartbeats 4000000 in
set_option maxRecDepth 100000 in
theorem mX8_isClosed (l : Launch) (lo : Nat) (D : va_G) (E : Nat → ClassId) (h : XW) (σ : MT) (th : Int32) (r : Nat) (ar : Nat → Nat) (hR : RM E σ th r ar h) (hW : MW σ) (a1 : Int32) : Met l yX8_isClosed wsX8_isClosed ({ frames := 2, cells := 0, slots := 0, locals := 42 } : Room) (xP lo D E h [.ref r, .int a1]) (xQ lo D (fun v h' => v = some (.int (fX8_isClosed σ th a1).1) ∧ RM E (fX8_isClosed σ th a1).2.1 (fX8_isClosed σ th a1).2.2 r ar h' ∧ xF r ar h h')) 0 0 (xA lo) := by
  obtain ⟨G, hG⟩ : ∃ G, fX8_isClosed σ th a1 = G := ⟨_, rfl⟩
  rw [hG]
  unfold fX8_isClosed at hG
  refine Met.ofW (cc := cX8_isClosed) (maxL := 2) (ret := (some .boolean)) (by decide) rfl ?_
  intro p e s m args below meth c s₁ B hml hv
  obtain ⟨rfl, I⟩ := hv
  have hx := B.exec
  have hb := B.bytes
  have hr := B.returns
  have hts := atoms_spec (ws := wsX8_isClosed) B.pre
  have hown : s.vm.findClass RX8 = some m.cls := findClass_of_methodNamed B.named
  have hlocks := B.notSynchronized
  have hl := lv_entry ([.ref r, .int a1] : List Value) (n := 2) (Nat.le_of_ble_eq_true rfl)
  rw [lg_entry_eq]
  generalize (lg_sl ([.ref r, .int a1] : List Value) ++ List.replicate (2 - (lg_sl ([.ref r, .int a1] : List Value)).length) Slot.unset).toArray = ls at hl ⊢
  have hl : lv_has ls 2 [(0, .ref r), (1, .int a1)] := hl
  have hin8 : ∀ w ∈ u_ws RX8 TX8 37, w ∈ wsX8_isClosed := fun _ h => List.mem_cons_of_mem _ (List.mem_append_right _ (h))
  have hW0 := hW
  obtain ⟨⟨w1, w2, w3, w4, w5, w6, w7⟩, w9, w12, w21, w22, w23, w25, w31, z26, z27, z28, z36⟩ := id hW
  have hS : va_S (xA lo) s.heap s.heap [] := va_S.rf
  have hF : xF r ar h h := xF.rf
  refine lv_aload_n hx hb dX8_isClosed_0 rfl (lv_at hl 0 rfl) ?_
  refine lv_iload_n hx hb dX8_isClosed_1 rfl (lv_at hl 1 rfl) ?_
  refine xcsR (As := [.int a1]) (rest := [.ref r]) (v := some (.int (fX8_isYear a1))) ⟨hx, hb, hml, hown, hts⟩ (mX8_isYear l lo D E h  a1  ) (va_cwS 1 hts gX8_isClosed_X8_isYear rfl rfl rfl (by decide +kernel) ⟨Nat.le_of_ble_eq_true rfl, Nat.le_of_ble_eq_true rfl⟩) I rfl hl.1 rfl (Nat.le_of_ble_eq_true rfl) dX8_isClosed_2 ⟨Nat.le_of_ble_eq_true rfl, Nat.le_of_ble_eq_true rfl⟩ ?_
  refine W.eq (g2 := F0 m 5 ls [.int (fX8_isYear a1), .ref r]) rfl ?_
  refine lv_if_eq (tgt := 12) hx hb dX8_isClosed_5 (by decide) (fun c_5 => ?_) (fun c_5 => ?_)
  · skip
    rw [if_pos c_5] at hG
    refine lv_iconst (v := (nI 1)) hx hb dX8_isClosed_12 (by decide) ?_
    refine xputM 0 hx hb hts hin8 hown I hS hR hF (by decide) (List.mem_of_getElem? (i := 1) rfl) rfl rfl rfl rfl rfl (hR.putTh _) dX8_isClosed_13 (fun H locs hw I hR hF hS => ?_)
    refine lv_aload_n hx hb dX8_isClosed_16 rfl (lv_at hl 0 rfl) ?_
    refine xget (C := RX8) (T := TX8) (N := 37) 0 hx hb hts hin8 hown I hR.1 rfl (by decide) (List.mem_of_getElem? (i := 1) rfl) rfl rfl dX8_isClosed_17 ?_
    refine lv_if_ne (tgt := 35) hx hb dX8_isClosed_20 (by decide) (fun _ => ?_) (fun q => absurd q (by decide))
    refine lv_iconst (v := (nI 0)) hx hb dX8_isClosed_35 (by decide) ?_
    subst hG
    exact xrzQ hx hb hr hlocks dX8_isClosed_36 (Or.inl rfl) I hS ⟨rfl, hR, hF⟩
  · skip
    rw [if_neg c_5] at hG
    obtain ⟨e_a1, l_a1⟩ := ok_isYear c_5
    refine lv_iconst (v := (nI 0)) hx hb dX8_isClosed_8 (by decide) ?_
    refine lv_goto (tgt := 13) hx hb dX8_isClosed_9 (by decide) ?_
    refine xputM 0 hx hb hts hin8 hown I hS hR hF (by decide) (List.mem_of_getElem? (i := 1) rfl) rfl rfl rfl rfl rfl (hR.putTh _) dX8_isClosed_13 (fun H locs hw I hR hF hS => ?_)
    refine lv_aload_n hx hb dX8_isClosed_16 rfl (lv_at hl 0 rfl) ?_
    refine xget (C := RX8) (T := TX8) (N := 37) 0 hx hb hts hin8 hown I hR.1 rfl (by decide) (List.mem_of_getElem? (i := 1) rfl) rfl rfl dX8_isClosed_17 ?_
    refine lv_if_ne (tgt := 35) hx hb dX8_isClosed_20 (by decide) (fun q => absurd (by decide) q) (fun _ => ?_)
    refine lv_iload_n hx hb dX8_isClosed_23 rfl (lv_at hl 1 rfl) ?_
    refine xtop (y := .int (nI (tn a1))) (congrArg Value.int e_a1) ?_
    refine lv_aload_n hx hb dX8_isClosed_24 rfl (lv_at hl 0 rfl) ?_
    refine xget (C := RX8) (T := TX8) (N := 37) 34 hx hb hts hin8 hown I hR.1 rfl (by decide) (List.mem_of_getElem? (i := 2) rfl) rfl rfl dX8_isClosed_25 ?_
    refine lv_icmp_ge (tgt := 35) hx hb dX8_isClosed_28 (by decide) (fun c_28 => ?_) (fun c_28 => ?_)
    · skip
      rw [if_pos c_28] at hG
      refine lv_iconst (v := (nI 0)) hx hb dX8_isClosed_35 (by decide) ?_
      subst hG
      exact xrzQ hx hb hr hlocks dX8_isClosed_36 (Or.inl rfl) I hS ⟨rfl, hR, hF⟩
    · skip
      rw [if_neg c_28] at hG
      refine lv_iconst (v := (nI 1)) hx hb dX8_isClosed_31 (by decide) ?_
      refine lv_goto (tgt := 36) hx hb dX8_isClosed_32 (by decide) ?_
      subst hG
      exact xrzQ hx hb hr hlocks dX8_isClosed_36 (Or.inr rfl) I hS ⟨rfl, hR, hF⟩

def fX8_reserve (σ : MT) (th : Int32) : Int64 × MT × Int32 := ((mL σ 35 0), σ, (nI 0))
set_option maxHeartbeats 4000000 in
set_option maxRecDepth 100000 in
theorem mX8_reserve (l : Launch) (lo : Nat) (D : va_G) (E : Nat → ClassId) (h : XW) (σ : MT) (th : Int32) (r : Nat) (ar : Nat → Nat) (hR : RM E σ th r ar h) (hW : MW σ) : Met l yX8_reserve wsX8_reserve ({ frames := 0, cells := 0, slots := 0, locals := 0 } : Room) (xP lo D E h [.ref r]) (xQ lo D (fun v h' => v = some (.long (fX8_reserve σ th).1) ∧ RM E (fX8_reserve σ th).2.1 (fX8_reserve σ th).2.2 r ar h' ∧ xF r ar h h')) 0 0 (xA lo) := by
  obtain ⟨G, hG⟩ : ∃ G, fX8_reserve σ th = G := ⟨_, rfl⟩
  rw [hG]
  unfold fX8_reserve at hG
  refine Met.ofW (cc := cX8_reserve) (maxL := 1) (ret := (some .long)) (by decide) rfl ?_
  intro p e s m args below meth c s₁ B hml hv
  obtain ⟨rfl, I⟩ := hv
  have hx := B.exec
  have hb := B.bytes
  have hr := B.returns
  have hts := atoms_spec (ws := wsX8_reserve) B.pre
  have hown : s.vm.findClass RX8 = some m.cls := findClass_of_methodNamed B.named
  have hlocks := B.notSynchronized
  have hl := lv_entry ([.ref r] : List Value) (n := 1) (Nat.le_of_ble_eq_true rfl)
  rw [lg_entry_eq]
  generalize (lg_sl ([.ref r] : List Value) ++ List.replicate (1 - (lg_sl ([.ref r] : List Value)).length) Slot.unset).toArray = ls at hl ⊢
  have hl : lv_has ls 1 [(0, .ref r)] := hl
  have hin8 : ∀ w ∈ u_ws RX8 TX8 37, w ∈ wsX8_reserve := fun _ h => List.mem_cons_of_mem _ (List.mem_append_right _ (h))
  have hW0 := hW
  obtain ⟨⟨w1, w2, w3, w4, w5, w6, w7⟩, w9, w12, w21, w22, w23, w25, w31, z26, z27, z28, z36⟩ := id hW
  have hS : va_S (xA lo) s.heap s.heap [] := va_S.rf
  have hF : xF r ar h h := xF.rf
  refine lv_aload_n hx hb dX8_reserve_0 rfl (lv_at hl 0 rfl) ?_
  refine lv_iconst (v := (nI 0)) hx hb dX8_reserve_1 (by decide) ?_
  refine xputM 0 hx hb hts hin8 hown I hS hR hF (by decide) (List.mem_of_getElem? (i := 1) rfl) rfl rfl rfl rfl rfl (hR.putTh _) dX8_reserve_2 (fun H locs hw I hR hF hS => ?_)
  refine lv_aload_n hx hb dX8_reserve_5 rfl (lv_at hl 0 rfl) ?_
  refine xget (C := RX8) (T := TX8) (N := 37) 35 hx hb hts hin8 hown I hR.1 rfl (by decide) (List.mem_of_getElem? (i := 2) rfl) rfl rfl dX8_reserve_6 ?_
  subst hG
  exact xrlQ hx hb hr hlocks dX8_reserve_9 I hS ⟨rfl, hR, hF⟩

def fX8_arrest (σ : MT) (th : Int32) (a1 : Int32) (a2 : Int32) : Int32 × MT × Int32 := (if (fX8_isShip σ a1) = 0 then ((nI 0), σ, (nI 1)) else (if (fX8_isClaim σ a2) = 0 then ((nI 0), σ, (nI 1)) else (if (nI (mK σ 9 (tn a1))) = (nI (mK σ 9 (mK σ 21 (tn a2)))) then (if (mI σ 26 (tn a2)) = 0 then (if (mI σ 24 (tn a2)) ≤ (mI σ 29 (tn a2)) then ((nI 0), σ, (nI 2)) else (if (fX8_isHeld σ (tn a1)) = 0 then ((nI 1), (mSI σ 36 (60 * (tn a1) + (tn a2)) (nI 1)), (nI 0)) else ((nI 0), (mSI σ 36 (60 * (tn a1) + (tn a2)) (nI 1)), (nI 0)))) else ((nI 0), σ, (nI 2))) else ((nI 0), σ, (nI 2)))))
set_option maxHeartbeats 4000000 in
set_option maxRecDepth 100000 in
theorem mX8_arrest (l : Launch) (lo : Nat) (D : va_G) (E : Nat → ClassId) (h : XW) (σ : MT) (th : Int32) (r : Nat) (ar : Nat → Nat) (hR : RM E σ th r ar h) (hW : MW σ) (a1 : Int32) (a2 : Int32) : Met l yX8_arrest wsX8_arrest ({ frames := 2, cells := 0, slots := 0, locals := 43 } : Room) (xP lo D E h [.ref r, .int a1, .int a2]) (xQ lo D (fun v h' => v = some (.int (fX8_arrest σ th a1 a2).1) ∧ RM E (fX8_arrest σ th a1 a2).2.1 (fX8_arrest σ th a1 a2).2.2 r ar h' ∧ xF r ar h h')) 0 0 (xA lo) := by
  obtain ⟨G, hG⟩ : ∃ G, fX8_arrest σ th a1 a2 = G := ⟨_, rfl⟩
  rw [hG]
  unfold fX8_arrest at hG
  refine Met.ofW (cc := cX8_arrest) (maxL := 6) (ret := (some .boolean)) (by decide) rfl ?_
  intro p e s m args below meth c s₁ B hml hv
  obtain ⟨rfl, I⟩ := hv
  have hx := B.exec
  have hb := B.bytes
  have hr := B.returns
  have hts := atoms_spec (ws := wsX8_arrest) B.pre
  have hown : s.vm.findClass RX8 = some m.cls := findClass_of_methodNamed B.named
  have hlocks := B.notSynchronized
  have hl := lv_entry ([.ref r, .int a1, .int a2] : List Value) (n := 6) (Nat.le_of_ble_eq_true rfl)
  rw [lg_entry_eq]
  generalize (lg_sl ([.ref r, .int a1, .int a2] : List Value) ++ List.replicate (6 - (lg_sl ([.ref r, .int a1, .int a2] : List Value)).length) Slot.unset).toArray = ls at hl ⊢
  have hl : lv_has ls 6 [(0, .ref r), (1, .int a1), (2, .int a2)] := hl
  have hin8 : ∀ w ∈ u_ws RX8 TX8 37, w ∈ wsX8_arrest := fun _ h => List.mem_cons_of_mem _ (List.mem_append_right _ (h))
  have hW0 := hW
  obtain ⟨⟨w1, w2, w3, w4, w5, w6, w7⟩, w9, w12, w21, w22, w23, w25, w31, z26, z27, z28, z36⟩ := id hW
  have hS : va_S (xA lo) s.heap s.heap [] := va_S.rf
  have hF : xF r ar h h := xF.rf
  refine lv_aload_n hx hb dX8_arrest_0 rfl (lv_at hl 0 rfl) ?_
  refine lv_iload_n hx hb dX8_arrest_1 rfl (lv_at hl 1 rfl) ?_
  refine xcvR (As := [.int a1]) (rest := []) (v := some (.int (fX8_isShip σ a1))) ⟨hx, hb, hml, hown, hts⟩ (mX8_isShip l lo D E h σ th r ar hR hW a1  ) (cwV 1 hts gX8_arrest_X8_isShip rfl rfl rfl (by decide +kernel) ⟨Nat.le_of_ble_eq_true rfl, Nat.le_of_ble_eq_true rfl⟩) I hR.1 rfl rfl hl.1 rfl (Nat.le_of_ble_eq_true rfl) dX8_arrest_2 ⟨Nat.le_of_ble_eq_true rfl, Nat.le_of_ble_eq_true rfl⟩ ?_
  refine W.eq (g2 := F0 m 5 ls [.int (fX8_isShip σ a1)]) rfl ?_
  refine lv_if_eq (tgt := 20) hx hb dX8_arrest_5 (by decide) (fun c_5 => ?_) (fun c_5 => ?_)
  · skip
    rw [if_pos c_5] at hG
    refine lv_iconst (v := (nI 0)) hx hb dX8_arrest_20 (by decide) ?_
    refine lv_istore_n (lv' := [(3, .int (nI 0)), (0, .ref r), (1, .int a1), (2, .int a2)]) hx hb dX8_arrest_21 rfl hl (by decide) rfl (fun ls hl => ?_)
    refine lv_iload_n hx hb dX8_arrest_22 rfl (lv_at hl 0 rfl) ?_
    refine lv_if_eq (tgt := 74) hx hb dX8_arrest_23 (by decide) (fun _ => ?_) (fun q => absurd (by decide) q)
    refine lv_iconst (v := (nI 0)) hx hb dX8_arrest_74 (by decide) ?_
    refine lv_istore (lv' := [(4, .int (nI 0)), (3, .int (nI 0)), (0, .ref r), (1, .int a1), (2, .int a2)]) hx hb dX8_arrest_75 hl (by decide) rfl (fun ls hl => ?_)
    refine lv_aload_n hx hb dX8_arrest_77 rfl (lv_at hl 2 rfl) ?_
    refine lv_iload_n hx hb dX8_arrest_78 rfl (lv_at hl 1 rfl) ?_
    refine lv_if_ne (tgt := 86) hx hb dX8_arrest_79 (by decide) (fun q => absurd (by decide) q) (fun _ => ?_)
    refine lv_iconst (v := (nI 1)) hx hb dX8_arrest_82 (by decide) ?_
    refine lv_goto (tgt := 96) hx hb dX8_arrest_83 (by decide) ?_
    refine xputM 0 hx hb hts hin8 hown I hS hR hF (by decide) (List.mem_of_getElem? (i := 6) rfl) rfl rfl rfl rfl rfl (hR.putTh _) dX8_arrest_96 (fun H locs hw I hR hF hS => ?_)
    refine lv_aload_n hx hb dX8_arrest_99 rfl (lv_at hl 2 rfl) ?_
    refine xget (C := RX8) (T := TX8) (N := 37) 0 hx hb hts hin8 hown I hR.1 rfl (by decide) (List.mem_of_getElem? (i := 6) rfl) rfl rfl dX8_arrest_100 ?_
    refine lv_if_le (tgt := 108) hx hb dX8_arrest_103 (by decide) (fun q => absurd q (by decide)) (fun _ => ?_)
    refine lv_iconst (v := (nI 0)) hx hb dX8_arrest_106 (by decide) ?_
    subst hG
    exact xrzQ hx hb hr hlocks dX8_arrest_107 (Or.inl rfl) I hS ⟨rfl, hR, hF⟩
  · skip
    rw [if_neg c_5] at hG
    obtain ⟨e_a1, l_a1⟩ := ok_isShip hW c_5
    refine lv_aload_n hx hb dX8_arrest_8 rfl (lv_at hl 0 rfl) ?_
    refine lv_iload_n hx hb dX8_arrest_9 rfl (lv_at hl 2 rfl) ?_
    refine xcvR (As := [.int a2]) (rest := []) (v := some (.int (fX8_isClaim σ a2))) ⟨hx, hb, hml, hown, hts⟩ (mX8_isClaim l lo D E h σ th r ar hR hW a2  ) (cwV 1 hts gX8_arrest_X8_isClaim rfl rfl rfl (by decide +kernel) ⟨Nat.le_of_ble_eq_true rfl, Nat.le_of_ble_eq_true rfl⟩) I hR.1 rfl rfl hl.1 rfl (Nat.le_of_ble_eq_true rfl) dX8_arrest_10 ⟨Nat.le_of_ble_eq_true rfl, Nat.le_of_ble_eq_true rfl⟩ ?_
    refine W.eq (g2 := F0 m 13 ls [.int (fX8_isClaim σ a2)]) rfl ?_
    refine lv_if_eq (tgt := 20) hx hb dX8_arrest_13 (by decide) (fun c_13 => ?_) (fun c_13 => ?_)
    · skip
      rw [if_pos c_13] at hG
      refine lv_iconst (v := (nI 0)) hx hb dX8_arrest_20 (by decide) ?_
      refine lv_istore_n (lv' := [(3, .int (nI 0)), (0, .ref r), (1, .int a1), (2, .int a2)]) hx hb dX8_arrest_21 rfl hl (by decide) rfl (fun ls hl => ?_)
      refine lv_iload_n hx hb dX8_arrest_22 rfl (lv_at hl 0 rfl) ?_
      refine lv_if_eq (tgt := 74) hx hb dX8_arrest_23 (by decide) (fun _ => ?_) (fun q => absurd (by decide) q)
      refine lv_iconst (v := (nI 0)) hx hb dX8_arrest_74 (by decide) ?_
      refine lv_istore (lv' := [(4, .int (nI 0)), (3, .int (nI 0)), (0, .ref r), (1, .int a1), (2, .int a2)]) hx hb dX8_arrest_75 hl (by decide) rfl (fun ls hl => ?_)
      refine lv_aload_n hx hb dX8_arrest_77 rfl (lv_at hl 2 rfl) ?_
      refine lv_iload_n hx hb dX8_arrest_78 rfl (lv_at hl 1 rfl) ?_
      refine lv_if_ne (tgt := 86) hx hb dX8_arrest_79 (by decide) (fun q => absurd (by decide) q) (fun _ => ?_)
      refine lv_iconst (v := (nI 1)) hx hb dX8_arrest_82 (by decide) ?_
      refine lv_goto (tgt := 96) hx hb dX8_arrest_83 (by decide) ?_
      refine xputM 0 hx hb hts hin8 hown I hS hR hF (by decide) (List.mem_of_getElem? (i := 6) rfl) rfl rfl rfl rfl rfl (hR.putTh _) dX8_arrest_96 (fun H locs hw I hR hF hS => ?_)
      refine lv_aload_n hx hb dX8_arrest_99 rfl (lv_at hl 2 rfl) ?_
      refine xget (C := RX8) (T := TX8) (N := 37) 0 hx hb hts hin8 hown I hR.1 rfl (by decide) (List.mem_of_getElem? (i := 6) rfl) rfl rfl dX8_arrest_100 ?_
      refine lv_if_le (tgt := 108) hx hb dX8_arrest_103 (by decide) (fun q => absurd q (by decide)) (fun _ => ?_)
      refine lv_iconst (v := (nI 0)) hx hb dX8_arrest_106 (by decide) ?_
      subst hG
      exact xrzQ hx hb hr hlocks dX8_arrest_107 (Or.inl rfl) I hS ⟨rfl, hR, hF⟩
    · skip
      rw [if_neg c_13] at hG
      obtain ⟨e_a2, l_a2⟩ := ok_isClaim hW c_13
      refine lv_iconst (v := (nI 1)) hx hb dX8_arrest_16 (by decide) ?_
      refine lv_goto (tgt := 21) hx hb dX8_arrest_17 (by decide) ?_
      refine lv_istore_n (lv' := [(3, .int (nI 1)), (0, .ref r), (1, .int a1), (2, .int a2)]) hx hb dX8_arrest_21 rfl hl (by decide) rfl (fun ls hl => ?_)
      refine lv_iload_n hx hb dX8_arrest_22 rfl (lv_at hl 0 rfl) ?_
      refine lv_if_eq (tgt := 74) hx hb dX8_arrest_23 (by decide) (fun q => absurd q (by decide)) (fun _ => ?_)
      refine lv_aload_n hx hb dX8_arrest_26 rfl (lv_at hl 1 rfl) ?_
      refine xget (C := RX8) (T := TX8) (N := 37) 9 hx hb hts hin8 hown I hR.1 rfl (by decide) (List.mem_of_getElem? (i := 1) rfl) rfl rfl dX8_arrest_27 ?_
      refine lv_iload_n hx hb dX8_arrest_30 rfl (lv_at hl 2 rfl) ?_
      refine xtop (y := .int (nI (tn a1))) (congrArg Value.int e_a1) ?_
      refine xiald (i := (tn a1)) (n := 24) hx hb I (hR.2.2.1 9 24 (by decide)) (by omega) (by decide) dX8_arrest_31 ?_
      have b31 := w9 (tn a1) (by omega)
      refine lv_aload_n hx hb dX8_arrest_32 rfl (lv_at hl 1 rfl) ?_
      refine xget (C := RX8) (T := TX8) (N := 37) 9 hx hb hts hin8 hown I hR.1 rfl (by decide) (List.mem_of_getElem? (i := 1) rfl) rfl rfl dX8_arrest_33 ?_
      refine lv_aload_n hx hb dX8_arrest_36 rfl (lv_at hl 1 rfl) ?_
      refine xget (C := RX8) (T := TX8) (N := 37) 21 hx hb hts hin8 hown I hR.1 rfl (by decide) (List.mem_of_getElem? (i := 2) rfl) rfl rfl dX8_arrest_37 ?_
      refine lv_iload_n hx hb dX8_arrest_40 rfl (lv_at hl 3 rfl) ?_
      refine xtop (y := .int (nI (tn a2))) (congrArg Value.int e_a2) ?_
      refine xiald (i := (tn a2)) (n := 60) hx hb I (hR.2.2.1 21 60 (by decide)) (by omega) (by decide) dX8_arrest_41 ?_
      have b41 := w21 (tn a2) (by omega)
      refine xiald (i := (mK σ 21 (tn a2))) (n := 24) hx hb I (hR.2.2.1 9 24 (by decide)) (by omega) (by decide) dX8_arrest_42 ?_
      have b42 := w9 (mK σ 21 (tn a2)) (by omega)
      refine lv_icmp_ne (tgt := 74) hx hb dX8_arrest_43 (by decide) (fun c_43 => ?_) (fun c_43 => ?_)
      · skip
        rw [if_neg c_43] at hG
        refine lv_iconst (v := (nI 0)) hx hb dX8_arrest_74 (by decide) ?_
        refine lv_istore (lv' := [(4, .int (nI 0)), (3, .int (nI 1)), (0, .ref r), (1, .int a1), (2, .int a2)]) hx hb dX8_arrest_75 hl (by decide) rfl (fun ls hl => ?_)
        refine lv_aload_n hx hb dX8_arrest_77 rfl (lv_at hl 2 rfl) ?_
        refine lv_iload_n hx hb dX8_arrest_78 rfl (lv_at hl 1 rfl) ?_
        refine lv_if_ne (tgt := 86) hx hb dX8_arrest_79 (by decide) (fun _ => ?_) (fun q => absurd q (by decide))
        refine lv_iload hx hb dX8_arrest_86 (lv_at hl 0 rfl) ?_
        refine lv_if_ne (tgt := 95) hx hb dX8_arrest_88 (by decide) (fun q => absurd (by decide) q) (fun _ => ?_)
        refine lv_iconst (v := (nI 2)) hx hb dX8_arrest_91 (by decide) ?_
        refine lv_goto (tgt := 96) hx hb dX8_arrest_92 (by decide) ?_
        refine xputM 0 hx hb hts hin8 hown I hS hR hF (by decide) (List.mem_of_getElem? (i := 6) rfl) rfl rfl rfl rfl rfl (hR.putTh _) dX8_arrest_96 (fun H locs hw I hR hF hS => ?_)
        refine lv_aload_n hx hb dX8_arrest_99 rfl (lv_at hl 2 rfl) ?_
        refine xget (C := RX8) (T := TX8) (N := 37) 0 hx hb hts hin8 hown I hR.1 rfl (by decide) (List.mem_of_getElem? (i := 6) rfl) rfl rfl dX8_arrest_100 ?_
        refine lv_if_le (tgt := 108) hx hb dX8_arrest_103 (by decide) (fun q => absurd q (by decide)) (fun _ => ?_)
        refine lv_iconst (v := (nI 0)) hx hb dX8_arrest_106 (by decide) ?_
        subst hG
        exact xrzQ hx hb hr hlocks dX8_arrest_107 (Or.inl rfl) I hS ⟨rfl, hR, hF⟩
      · skip
        rw [if_pos c_43] at hG
        refine lv_aload_n hx hb dX8_arrest_46 rfl (lv_at hl 1 rfl) ?_
        refine xget (C := RX8) (T := TX8) (N := 37) 26 hx hb hts hin8 hown I hR.1 rfl (by decide) (List.mem_of_getElem? (i := 3) rfl) rfl rfl dX8_arrest_47 ?_
        refine lv_iload_n hx hb dX8_arrest_50 rfl (lv_at hl 3 rfl) ?_
        refine xtop (y := .int (nI (tn a2))) (congrArg Value.int e_a2) ?_
        refine xzald (i := (tn a2)) (n := 60) hx hb I (hR.2.2.2.2.1 26 60 (by decide)) (by omega) (by decide) dX8_arrest_51 ?_
        refine lv_if_ne (tgt := 74) hx hb dX8_arrest_52 (by decide) (fun c_52 => ?_) (fun c_52 => ?_)
        · skip
          rw [if_neg c_52] at hG
          refine lv_iconst (v := (nI 0)) hx hb dX8_arrest_74 (by decide) ?_
          refine lv_istore (lv' := [(4, .int (nI 0)), (3, .int (nI 1)), (0, .ref r), (1, .int a1), (2, .int a2)]) hx hb dX8_arrest_75 hl (by decide) rfl (fun ls hl => ?_)
          refine lv_aload_n hx hb dX8_arrest_77 rfl (lv_at hl 2 rfl) ?_
          refine lv_iload_n hx hb dX8_arrest_78 rfl (lv_at hl 1 rfl) ?_
          refine lv_if_ne (tgt := 86) hx hb dX8_arrest_79 (by decide) (fun _ => ?_) (fun q => absurd q (by decide))
          refine lv_iload hx hb dX8_arrest_86 (lv_at hl 0 rfl) ?_
          refine lv_if_ne (tgt := 95) hx hb dX8_arrest_88 (by decide) (fun q => absurd (by decide) q) (fun _ => ?_)
          refine lv_iconst (v := (nI 2)) hx hb dX8_arrest_91 (by decide) ?_
          refine lv_goto (tgt := 96) hx hb dX8_arrest_92 (by decide) ?_
          refine xputM 0 hx hb hts hin8 hown I hS hR hF (by decide) (List.mem_of_getElem? (i := 6) rfl) rfl rfl rfl rfl rfl (hR.putTh _) dX8_arrest_96 (fun H locs hw I hR hF hS => ?_)
          refine lv_aload_n hx hb dX8_arrest_99 rfl (lv_at hl 2 rfl) ?_
          refine xget (C := RX8) (T := TX8) (N := 37) 0 hx hb hts hin8 hown I hR.1 rfl (by decide) (List.mem_of_getElem? (i := 6) rfl) rfl rfl dX8_arrest_100 ?_
          refine lv_if_le (tgt := 108) hx hb dX8_arrest_103 (by decide) (fun q => absurd q (by decide)) (fun _ => ?_)
          refine lv_iconst (v := (nI 0)) hx hb dX8_arrest_106 (by decide) ?_
          subst hG
          exact xrzQ hx hb hr hlocks dX8_arrest_107 (Or.inl rfl) I hS ⟨rfl, hR, hF⟩
        · skip
          rw [if_pos c_52] at hG
          refine lv_aload_n hx hb dX8_arrest_55 rfl (lv_at hl 1 rfl) ?_
          refine xget (C := RX8) (T := TX8) (N := 37) 29 hx hb hts hin8 hown I hR.1 rfl (by decide) (List.mem_of_getElem? (i := 4) rfl) rfl rfl dX8_arrest_56 ?_
          refine lv_iload_n hx hb dX8_arrest_59 rfl (lv_at hl 3 rfl) ?_
          refine xtop (y := .int (nI (tn a2))) (congrArg Value.int e_a2) ?_
          refine xiald (i := (tn a2)) (n := 60) hx hb I (hR.2.1 29 60 (by decide)) (by omega) (by decide) dX8_arrest_60 ?_
          refine lv_aload_n hx hb dX8_arrest_61 rfl (lv_at hl 1 rfl) ?_
          refine xget (C := RX8) (T := TX8) (N := 37) 24 hx hb hts hin8 hown I hR.1 rfl (by decide) (List.mem_of_getElem? (i := 5) rfl) rfl rfl dX8_arrest_62 ?_
          refine lv_iload_n hx hb dX8_arrest_65 rfl (lv_at hl 3 rfl) ?_
          refine xtop (y := .int (nI (tn a2))) (congrArg Value.int e_a2) ?_
          refine xiald (i := (tn a2)) (n := 60) hx hb I (hR.2.1 24 60 (by decide)) (by omega) (by decide) dX8_arrest_66 ?_
          refine lv_icmp_ge (tgt := 74) hx hb dX8_arrest_67 (by decide) (fun c_67 => ?_) (fun c_67 => ?_)
          · skip
            rw [if_pos c_67] at hG
            refine lv_iconst (v := (nI 0)) hx hb dX8_arrest_74 (by decide) ?_
            refine lv_istore (lv' := [(4, .int (nI 0)), (3, .int (nI 1)), (0, .ref r), (1, .int a1), (2, .int a2)]) hx hb dX8_arrest_75 hl (by decide) rfl (fun ls hl => ?_)
            refine lv_aload_n hx hb dX8_arrest_77 rfl (lv_at hl 2 rfl) ?_
            refine lv_iload_n hx hb dX8_arrest_78 rfl (lv_at hl 1 rfl) ?_
            refine lv_if_ne (tgt := 86) hx hb dX8_arrest_79 (by decide) (fun _ => ?_) (fun q => absurd q (by decide))
            refine lv_iload hx hb dX8_arrest_86 (lv_at hl 0 rfl) ?_
            refine lv_if_ne (tgt := 95) hx hb dX8_arrest_88 (by decide) (fun q => absurd (by decide) q) (fun _ => ?_)
            refine lv_iconst (v := (nI 2)) hx hb dX8_arrest_91 (by decide) ?_
            refine lv_goto (tgt := 96) hx hb dX8_arrest_92 (by decide) ?_
            refine xputM 0 hx hb hts hin8 hown I hS hR hF (by decide) (List.mem_of_getElem? (i := 6) rfl) rfl rfl rfl rfl rfl (hR.putTh _) dX8_arrest_96 (fun H locs hw I hR hF hS => ?_)
            refine lv_aload_n hx hb dX8_arrest_99 rfl (lv_at hl 2 rfl) ?_
            refine xget (C := RX8) (T := TX8) (N := 37) 0 hx hb hts hin8 hown I hR.1 rfl (by decide) (List.mem_of_getElem? (i := 6) rfl) rfl rfl dX8_arrest_100 ?_
            refine lv_if_le (tgt := 108) hx hb dX8_arrest_103 (by decide) (fun q => absurd q (by decide)) (fun _ => ?_)
            refine lv_iconst (v := (nI 0)) hx hb dX8_arrest_106 (by decide) ?_
            subst hG
            exact xrzQ hx hb hr hlocks dX8_arrest_107 (Or.inl rfl) I hS ⟨rfl, hR, hF⟩
          · skip
            rw [if_neg c_67] at hG
            refine lv_iconst (v := (nI 1)) hx hb dX8_arrest_70 (by decide) ?_
            refine lv_goto (tgt := 75) hx hb dX8_arrest_71 (by decide) ?_
            refine lv_istore (lv' := [(4, .int (nI 1)), (3, .int (nI 1)), (0, .ref r), (1, .int a1), (2, .int a2)]) hx hb dX8_arrest_75 hl (by decide) rfl (fun ls hl => ?_)
            refine lv_aload_n hx hb dX8_arrest_77 rfl (lv_at hl 2 rfl) ?_
            refine lv_iload_n hx hb dX8_arrest_78 rfl (lv_at hl 1 rfl) ?_
            refine lv_if_ne (tgt := 86) hx hb dX8_arrest_79 (by decide) (fun _ => ?_) (fun q => absurd q (by decide))
            refine lv_iload hx hb dX8_arrest_86 (lv_at hl 0 rfl) ?_
            refine lv_if_ne (tgt := 95) hx hb dX8_arrest_88 (by decide) (fun _ => ?_) (fun q => absurd q (by decide))
            refine lv_iconst (v := (nI 0)) hx hb dX8_arrest_95 (by decide) ?_
            refine xputM 0 hx hb hts hin8 hown I hS hR hF (by decide) (List.mem_of_getElem? (i := 6) rfl) rfl rfl rfl rfl rfl (hR.putTh _) dX8_arrest_96 (fun H locs hw I hR hF hS => ?_)
            refine lv_aload_n hx hb dX8_arrest_99 rfl (lv_at hl 2 rfl) ?_
            refine xget (C := RX8) (T := TX8) (N := 37) 0 hx hb hts hin8 hown I hR.1 rfl (by decide) (List.mem_of_getElem? (i := 6) rfl) rfl rfl dX8_arrest_100 ?_
            refine lv_if_le (tgt := 108) hx hb dX8_arrest_103 (by decide) (fun _ => ?_) (fun q => absurd (by decide) q)
            refine lv_aload_n hx hb dX8_arrest_108 rfl (lv_at hl 2 rfl) ?_
            refine lv_iload_n hx hb dX8_arrest_109 rfl (lv_at hl 3 rfl) ?_
            refine xtop (y := .int (nI (tn a1))) (congrArg Value.int e_a1) ?_
            refine xcvR (As := [.int (nI (tn a1))]) (rest := []) (v := some (.int (fX8_isHeld σ (tn a1)))) ⟨hx, hb, hml, hown, hts⟩ (mX8_isHeld l lo D E hw σ (nI 0) r ar hR hW (tn a1)  (by first | assumption | omega)) (cwV 1 hts gX8_arrest_X8_isHeld rfl rfl rfl (by decide +kernel) ⟨Nat.le_of_ble_eq_true rfl, Nat.le_of_ble_eq_true rfl⟩) I hR.1 rfl rfl hl.1 rfl (Nat.le_of_ble_eq_true rfl) dX8_arrest_110 ⟨Nat.le_of_ble_eq_true rfl, Nat.le_of_ble_eq_true rfl⟩ ?_
            refine W.eq (g2 := F0 m 113 ls [.int (fX8_isHeld σ (tn a1))]) rfl ?_
            refine lv_istore (lv' := [(5, .int (fX8_isHeld σ (tn a1))), (4, .int (nI 1)), (3, .int (nI 1)), (0, .ref r), (1, .int a1), (2, .int a2)]) hx hb dX8_arrest_113 hl (by decide) rfl (fun ls hl => ?_)
            refine lv_aload_n hx hb dX8_arrest_115 rfl (lv_at hl 3 rfl) ?_
            refine xget (C := RX8) (T := TX8) (N := 37) 36 hx hb hts hin8 hown I hR.1 rfl (by decide) (List.mem_of_getElem? (i := 7) rfl) rfl rfl dX8_arrest_116 ?_
            refine lv_bipush (v := (nI 60)) hx hb dX8_arrest_119 (by decide) ?_
            refine lv_iload_n hx hb dX8_arrest_121 rfl (lv_at hl 4 rfl) ?_
            refine xtop (y := .int (nI (tn a1))) (congrArg Value.int e_a1) ?_
            refine lv_imul hx hb dX8_arrest_122 ?_
            refine xtop (y := .int (nI (60 * (tn a1)))) (congrArg Value.int (pk_mul _ _)) ?_
            refine lv_iload_n hx hb dX8_arrest_123 rfl (lv_at hl 5 rfl) ?_
            refine xtop (y := .int (nI (tn a2))) (congrArg Value.int e_a2) ?_
            refine lv_iadd hx hb dX8_arrest_124 ?_
            refine xtop (y := .int (nI (60 * (tn a1) + (tn a2)))) (congrArg Value.int (nI_add _ _)) ?_
            refine lv_iconst (v := (nI 1)) hx hb dX8_arrest_125 (by decide) ?_
            refine xzM (i := (60 * (tn a1) + (tn a2))) (n := 1440) 36 hx hb I hS hR hF (by decide) (by omega) (by decide) dX8_arrest_126 (fun H locs hw I hR hF hS => ?_)
            have hR : RM E (mSI σ 36 (60 * (tn a1) + (tn a2)) (nI 1)) (nI 0) r ar hw := hR
            have hW := hW.sZ 36 (60 * (tn a1) + (tn a2)) (nI 1) (Or.inr rfl)
            refine lv_iload hx hb dX8_arrest_127 (lv_at hl 0 rfl) ?_
            refine lv_if_ne (tgt := 136) hx hb dX8_arrest_129 (by decide) (fun c_129 => ?_) (fun c_129 => ?_)
            · skip
              rw [if_neg c_129] at hG
              refine lv_iconst (v := (nI 0)) hx hb dX8_arrest_136 (by decide) ?_
              subst hG
              exact xrzQ hx hb hr hlocks dX8_arrest_137 (Or.inl rfl) I hS ⟨rfl, hR, hF⟩
            · skip
              rw [if_pos c_129] at hG
              refine lv_iconst (v := (nI 1)) hx hb dX8_arrest_132 (by decide) ?_
              refine lv_goto (tgt := 137) hx hb dX8_arrest_133 (by decide) ?_
              subst hG
              exact xrzQ hx hb hr hlocks dX8_arrest_137 (Or.inr rfl) I hS ⟨rfl, hR, hF⟩

def fX8_isArrested (σ : MT) (th : Int32) (a1 : Int32) : Int32 × MT × Int32 := (if (fX8_isShip σ a1) = 0 then ((nI 0), σ, (nI 1)) else (if (fX8_isHeld σ (tn a1)) = 0 then ((nI 0), σ, (nI 0)) else ((nI 1), σ, (nI 0))))
set_option maxHeartbeats 4000000 in
set_option maxRecDepth 100000 in
theorem mX8_isArrested (l : Launch) (lo : Nat) (D : va_G) (E : Nat → ClassId) (h : XW) (σ : MT) (th : Int32) (r : Nat) (ar : Nat → Nat) (hR : RM E σ th r ar h) (hW : MW σ) (a1 : Int32) : Met l yX8_isArrested wsX8_isArrested ({ frames := 2, cells := 0, slots := 0, locals := 43 } : Room) (xP lo D E h [.ref r, .int a1]) (xQ lo D (fun v h' => v = some (.int (fX8_isArrested σ th a1).1) ∧ RM E (fX8_isArrested σ th a1).2.1 (fX8_isArrested σ th a1).2.2 r ar h' ∧ xF r ar h h')) 0 0 (xA lo) := by
  obtain ⟨G, hG⟩ : ∃ G, fX8_isArrested σ th a1 = G := ⟨_, rfl⟩
  rw [hG]
  unfold fX8_isArrested at hG
  refine Met.ofW (cc := cX8_isArrested) (maxL := 2) (ret := (some .boolean)) (by decide) rfl ?_
  intro p e s m args below meth c s₁ B hml hv
  obtain ⟨rfl, I⟩ := hv
  have hx := B.exec
  have hb := B.bytes
  have hr := B.returns
  have hts := atoms_spec (ws := wsX8_isArrested) B.pre
  have hown : s.vm.findClass RX8 = some m.cls := findClass_of_methodNamed B.named
  have hlocks := B.notSynchronized
  have hl := lv_entry ([.ref r, .int a1] : List Value) (n := 2) (Nat.le_of_ble_eq_true rfl)
  rw [lg_entry_eq]
  generalize (lg_sl ([.ref r, .int a1] : List Value) ++ List.replicate (2 - (lg_sl ([.ref r, .int a1] : List Value)).length) Slot.unset).toArray = ls at hl ⊢
  have hl : lv_has ls 2 [(0, .ref r), (1, .int a1)] := hl
  have hin8 : ∀ w ∈ u_ws RX8 TX8 37, w ∈ wsX8_isArrested := fun _ h => List.mem_cons_of_mem _ (List.mem_append_right _ (h))
  have hW0 := hW
  obtain ⟨⟨w1, w2, w3, w4, w5, w6, w7⟩, w9, w12, w21, w22, w23, w25, w31, z26, z27, z28, z36⟩ := id hW
  have hS : va_S (xA lo) s.heap s.heap [] := va_S.rf
  have hF : xF r ar h h := xF.rf
  refine lv_aload_n hx hb dX8_isArrested_0 rfl (lv_at hl 0 rfl) ?_
  refine lv_aload_n hx hb dX8_isArrested_1 rfl (lv_at hl 0 rfl) ?_
  refine lv_iload_n hx hb dX8_isArrested_2 rfl (lv_at hl 1 rfl) ?_
  refine xcvR (As := [.int a1]) (rest := [.ref r]) (v := some (.int (fX8_isShip σ a1))) ⟨hx, hb, hml, hown, hts⟩ (mX8_isShip l lo D E h σ th r ar hR hW a1  ) (cwV 1 hts gX8_isArrested_X8_isShip rfl rfl rfl (by decide +kernel) ⟨Nat.le_of_ble_eq_true rfl, Nat.le_of_ble_eq_true rfl⟩) I hR.1 rfl rfl hl.1 rfl (Nat.le_of_ble_eq_true rfl) dX8_isArrested_3 ⟨Nat.le_of_ble_eq_true rfl, Nat.le_of_ble_eq_true rfl⟩ ?_
  refine W.eq (g2 := F0 m 6 ls [.int (fX8_isShip σ a1), .ref r]) rfl ?_
  refine lv_if_eq (tgt := 13) hx hb dX8_isArrested_6 (by decide) (fun c_6 => ?_) (fun c_6 => ?_)
  · skip
    rw [if_pos c_6] at hG
    refine lv_iconst (v := (nI 1)) hx hb dX8_isArrested_13 (by decide) ?_
    refine xputM 0 hx hb hts hin8 hown I hS hR hF (by decide) (List.mem_of_getElem? (i := 1) rfl) rfl rfl rfl rfl rfl (hR.putTh _) dX8_isArrested_14 (fun H locs hw I hR hF hS => ?_)
    refine lv_aload_n hx hb dX8_isArrested_17 rfl (lv_at hl 0 rfl) ?_
    refine xget (C := RX8) (T := TX8) (N := 37) 0 hx hb hts hin8 hown I hR.1 rfl (by decide) (List.mem_of_getElem? (i := 1) rfl) rfl rfl dX8_isArrested_18 ?_
    refine lv_if_ne (tgt := 36) hx hb dX8_isArrested_21 (by decide) (fun _ => ?_) (fun q => absurd q (by decide))
    refine lv_iconst (v := (nI 0)) hx hb dX8_isArrested_36 (by decide) ?_
    subst hG
    exact xrzQ hx hb hr hlocks dX8_isArrested_37 (Or.inl rfl) I hS ⟨rfl, hR, hF⟩
  · skip
    rw [if_neg c_6] at hG
    obtain ⟨e_a1, l_a1⟩ := ok_isShip hW c_6
    refine lv_iconst (v := (nI 0)) hx hb dX8_isArrested_9 (by decide) ?_
    refine lv_goto (tgt := 14) hx hb dX8_isArrested_10 (by decide) ?_
    refine xputM 0 hx hb hts hin8 hown I hS hR hF (by decide) (List.mem_of_getElem? (i := 1) rfl) rfl rfl rfl rfl rfl (hR.putTh _) dX8_isArrested_14 (fun H locs hw I hR hF hS => ?_)
    refine lv_aload_n hx hb dX8_isArrested_17 rfl (lv_at hl 0 rfl) ?_
    refine xget (C := RX8) (T := TX8) (N := 37) 0 hx hb hts hin8 hown I hR.1 rfl (by decide) (List.mem_of_getElem? (i := 1) rfl) rfl rfl dX8_isArrested_18 ?_
    refine lv_if_ne (tgt := 36) hx hb dX8_isArrested_21 (by decide) (fun q => absurd (by decide) q) (fun _ => ?_)
    refine lv_aload_n hx hb dX8_isArrested_24 rfl (lv_at hl 0 rfl) ?_
    refine lv_iload_n hx hb dX8_isArrested_25 rfl (lv_at hl 1 rfl) ?_
    refine xtop (y := .int (nI (tn a1))) (congrArg Value.int e_a1) ?_
    refine xcvR (As := [.int (nI (tn a1))]) (rest := []) (v := some (.int (fX8_isHeld σ (tn a1)))) ⟨hx, hb, hml, hown, hts⟩ (mX8_isHeld l lo D E hw σ (nI 0) r ar hR hW (tn a1)  (by first | assumption | omega)) (cwV 1 hts gX8_isArrested_X8_isHeld rfl rfl rfl (by decide +kernel) ⟨Nat.le_of_ble_eq_true rfl, Nat.le_of_ble_eq_true rfl⟩) I hR.1 rfl rfl hl.1 rfl (Nat.le_of_ble_eq_true rfl) dX8_isArrested_26 ⟨Nat.le_of_ble_eq_true rfl, Nat.le_of_ble_eq_true rfl⟩ ?_
    refine W.eq (g2 := F0 m 29 ls [.int (fX8_isHeld σ (tn a1))]) rfl ?_
    refine lv_if_eq (tgt := 36) hx hb dX8_isArrested_29 (by decide) (fun c_29 => ?_) (fun c_29 => ?_)
    · skip
      rw [if_pos c_29] at hG
      refine lv_iconst (v := (nI 0)) hx hb dX8_isArrested_36 (by decide) ?_
      subst hG
      exact xrzQ hx hb hr hlocks dX8_isArrested_37 (Or.inl rfl) I hS ⟨rfl, hR, hF⟩
    · skip
      rw [if_neg c_29] at hG
      refine lv_iconst (v := (nI 1)) hx hb dX8_isArrested_32 (by decide) ?_
      refine lv_goto (tgt := 37) hx hb dX8_isArrested_33 (by decide) ?_
      subst hG
      exact xrzQ hx hb hr hlocks dX8_isArrested_37 (Or.inr rfl) I hS ⟨rfl, hR, hF⟩

def fX8_result_S35 (σ : MT) (th : Int32) (a1 : Int32) (k35 : Nat) (a35_2 : Int64) : (Int64) := (a35_2 + (fX8_dueOf σ k35 (tn a1)))
def fX8_result_L35 (σ : MT) (th : Int32) (a1 : Int32) : Nat → Nat → Int64 → Int64 × MT × Int32
  | 0, k35, a35_2 => (a35_2, σ, (nI 0))
  | n35 + 1, k35, a35_2 => lseq (fX8_result_S35 σ th a1 k35 a35_2) (fun q => fX8_result_L35 σ th a1 n35 (k35 + 1) q)
def fX8_result (σ : MT) (th : Int32) (a1 : Int32) : Int64 × MT × Int32 := (if (fX8_isYear a1) = 0 then ((0 : Int64), σ, (nI 1)) else (fX8_result_L35 σ th a1 (mN σ 2) 0 (-(fX8_costIn σ (nI (tn a1))))))
set_option maxHeartbeats 4000000 in
set_option maxRecDepth 100000 in
theorem mX8_result (l : Launch) (lo : Nat) (D : va_G) (E : Nat → ClassId) (h : XW) (σ : MT) (th : Int32) (r : Nat) (ar : Nat → Nat) (hR : RM E σ th r ar h) (hW : MW σ) (a1 : Int32) : Met l yX8_result wsX8_result ({ frames := 6, cells := 0, slots := 0, locals := 153 } : Room) (xP lo D E h [.ref r, .int a1]) (xQ lo D (fun v h' => v = some (.long (fX8_result σ th a1).1) ∧ RM E (fX8_result σ th a1).2.1 (fX8_result σ th a1).2.2 r ar h' ∧ xF r ar h h')) 0 0 (xA lo) := by
  obtain ⟨G, hG⟩ : ∃ G, fX8_result σ th a1 = G := ⟨_, rfl⟩
  rw [hG]
  unfold fX8_result at hG
  refine Met.ofW (cc := cX8_result) (maxL := 5) (ret := (some .long)) (by decide) rfl ?_
  intro p e s m args below meth c s₁ B hml hv
  obtain ⟨rfl, I⟩ := hv
  have hx := B.exec
  have hb := B.bytes
  have hr := B.returns
  have hts := atoms_spec (ws := wsX8_result) B.pre
  have hown : s.vm.findClass RX8 = some m.cls := findClass_of_methodNamed B.named
  have hlocks := B.notSynchronized
  have hl := lv_entry ([.ref r, .int a1] : List Value) (n := 5) (Nat.le_of_ble_eq_true rfl)
  rw [lg_entry_eq]
  generalize (lg_sl ([.ref r, .int a1] : List Value) ++ List.replicate (5 - (lg_sl ([.ref r, .int a1] : List Value)).length) Slot.unset).toArray = ls at hl ⊢
  have hl : lv_has ls 5 [(0, .ref r), (1, .int a1)] := hl
  have hin8 : ∀ w ∈ u_ws RX8 TX8 37, w ∈ wsX8_result := fun _ h => List.mem_cons_of_mem _ (List.mem_append_right _ (h))
  have hW0 := hW
  obtain ⟨⟨w1, w2, w3, w4, w5, w6, w7⟩, w9, w12, w21, w22, w23, w25, w31, z26, z27, z28, z36⟩ := id hW
  have hS : va_S (xA lo) s.heap s.heap [] := va_S.rf
  have hF : xF r ar h h := xF.rf
  refine lv_aload_n hx hb dX8_result_0 rfl (lv_at hl 0 rfl) ?_
  refine lv_iload_n hx hb dX8_result_1 rfl (lv_at hl 1 rfl) ?_
  refine xcsR (As := [.int a1]) (rest := [.ref r]) (v := some (.int (fX8_isYear a1))) ⟨hx, hb, hml, hown, hts⟩ (mX8_isYear l lo D E h  a1  ) (va_cwS 1 hts gX8_result_X8_isYear rfl rfl rfl (by decide +kernel) ⟨Nat.le_of_ble_eq_true rfl, Nat.le_of_ble_eq_true rfl⟩) I rfl hl.1 rfl (Nat.le_of_ble_eq_true rfl) dX8_result_2 ⟨Nat.le_of_ble_eq_true rfl, Nat.le_of_ble_eq_true rfl⟩ ?_
  refine W.eq (g2 := F0 m 5 ls [.int (fX8_isYear a1), .ref r]) rfl ?_
  refine lv_if_eq (tgt := 12) hx hb dX8_result_5 (by decide) (fun c_5 => ?_) (fun c_5 => ?_)
  · skip
    rw [if_pos c_5] at hG
    refine lv_iconst (v := (nI 1)) hx hb dX8_result_12 (by decide) ?_
    refine xputM 0 hx hb hts hin8 hown I hS hR hF (by decide) (List.mem_of_getElem? (i := 1) rfl) rfl rfl rfl rfl rfl (hR.putTh _) dX8_result_13 (fun H locs hw I hR hF hS => ?_)
    refine lv_aload_n hx hb dX8_result_16 rfl (lv_at hl 0 rfl) ?_
    refine xget (C := RX8) (T := TX8) (N := 37) 0 hx hb hts hin8 hown I hR.1 rfl (by decide) (List.mem_of_getElem? (i := 1) rfl) rfl rfl dX8_result_17 ?_
    refine lv_if_le (tgt := 25) hx hb dX8_result_20 (by decide) (fun q => absurd q (by decide)) (fun _ => ?_)
    refine lv_lconst (v := (0 : Int64)) hx hb dX8_result_23 rfl ?_
    subst hG
    exact xrlQ hx hb hr hlocks dX8_result_24 I hS ⟨rfl, hR, hF⟩
  · skip
    rw [if_neg c_5] at hG
    obtain ⟨e_a1, l_a1⟩ := ok_isYear c_5
    refine lv_iconst (v := (nI 0)) hx hb dX8_result_8 (by decide) ?_
    refine lv_goto (tgt := 13) hx hb dX8_result_9 (by decide) ?_
    refine xputM 0 hx hb hts hin8 hown I hS hR hF (by decide) (List.mem_of_getElem? (i := 1) rfl) rfl rfl rfl rfl rfl (hR.putTh _) dX8_result_13 (fun H locs hw I hR hF hS => ?_)
    refine lv_aload_n hx hb dX8_result_16 rfl (lv_at hl 0 rfl) ?_
    refine xget (C := RX8) (T := TX8) (N := 37) 0 hx hb hts hin8 hown I hR.1 rfl (by decide) (List.mem_of_getElem? (i := 1) rfl) rfl rfl dX8_result_17 ?_
    refine lv_if_le (tgt := 25) hx hb dX8_result_20 (by decide) (fun _ => ?_) (fun q => absurd (by decide) q)
    refine lv_aload_n hx hb dX8_result_25 rfl (lv_at hl 0 rfl) ?_
    refine lv_iload_n hx hb dX8_result_26 rfl (lv_at hl 1 rfl) ?_
    refine xtop (y := .int (nI (tn a1))) (congrArg Value.int e_a1) ?_
    refine xcvR (As := [.int (nI (tn a1))]) (rest := []) (v := some (.long (fX8_costIn σ (nI (tn a1))))) ⟨hx, hb, hml, hown, hts⟩ (mX8_costIn l lo D E hw σ (nI 0) r ar hR hW (nI (tn a1))  ) (cwV 1 hts gX8_result_X8_costIn rfl rfl rfl (by decide +kernel) ⟨Nat.le_of_ble_eq_true rfl, Nat.le_of_ble_eq_true rfl⟩) I hR.1 rfl rfl hl.1 rfl (Nat.le_of_ble_eq_true rfl) dX8_result_27 ⟨Nat.le_of_ble_eq_true rfl, Nat.le_of_ble_eq_true rfl⟩ ?_
    refine W.eq (g2 := F0 m 30 ls [.long (fX8_costIn σ (nI (tn a1)))]) rfl ?_
    refine lv_lneg hx hb dX8_result_30 ?_
    refine lv_lstore_n (lv' := [(2, .long (-(fX8_costIn σ (nI (tn a1))))), (0, .ref r), (1, .int a1)]) hx hb dX8_result_31 rfl hl (by decide) rfl (fun ls hl => ?_)
    refine lv_iconst (v := (nI 0)) hx hb dX8_result_32 (by decide) ?_
    refine lv_istore (lv' := [(4, .int (nI 0)), (2, .long (-(fX8_costIn σ (nI (tn a1))))), (0, .ref r), (1, .int a1)]) hx hb dX8_result_33 hl (by decide) rfl (fun ls hl => ?_)
    have L35 : ∀ (n35 : Nat) (k35 : Nat) (a35_2 : Int64), k35 + n35 = mN σ 2 → fX8_result_L35 σ th a1 n35 k35 a35_2 = G → ∀ ls : Array Slot, lv_has ls 5 [(0, .ref r), (1, .int a1), (2, .long a35_2), (4, .int (nI k35))] → W p l e (headSpec wsX8_result ({ frames := 6, cells := 0, slots := 0, locals := 153 } : Room)).room s m ([.ref r, .int a1] : List Value).toArray below meth c H locs 0 0 (MQ below (xQ lo D (fun v h' => v = some (.long (G).1) ∧ RM E (G).2.1 (G).2.2 r ar h' ∧ xF r ar h h')) ([.ref r, .int a1] : List Value).toArray s 0 0 (xA lo)) (F0 m 35 ls []) := by
      intro n35
      induction n35 with
      | zero =>
        intro k35 a35_2 hkn hG ls hl
        have hkN : k35 = mN σ 2 := by omega
        have hG : (a35_2, σ, (nI 0)) = G := hG
        refine lv_iload hx hb dX8_result_35 (lv_at hl 3 rfl) ?_
        refine lv_aload_n hx hb dX8_result_37 rfl (lv_at hl 0 rfl) ?_
        refine xget (C := RX8) (T := TX8) (N := 37) 2 hx hb hts hin8 hown I hR.1 rfl (by decide) (List.mem_of_getElem? (i := 2) rfl) rfl rfl dX8_result_38 ?_
        refine lv_icmp_ge (tgt := 60) hx hb dX8_result_41 (by decide) (fun _ => ?_) (fun q => absurd (nI_le (Nat.le_of_eq hkN.symm) (by omega)) q)
        refine lv_lload_n hx hb dX8_result_60 rfl (lv_at hl 2 rfl) ?_
        subst hG
        exact xrlQ hx hb hr hlocks dX8_result_61 I hS ⟨rfl, hR, hF⟩
      | succ n35 ih =>
        intro k35 a35_2 hkn hG ls hl
        have hk : k35 < mN σ 2 := by omega
        have hG : lseq ((a35_2 + (fX8_dueOf σ k35 (tn a1)))) (fun q => fX8_result_L35 σ th a1 n35 (k35 + 1) q) = G := hG
        refine lv_iload hx hb dX8_result_35 (lv_at hl 3 rfl) ?_
        refine lv_aload_n hx hb dX8_result_37 rfl (lv_at hl 0 rfl) ?_
        refine xget (C := RX8) (T := TX8) (N := 37) 2 hx hb hts hin8 hown I hR.1 rfl (by decide) (List.mem_of_getElem? (i := 2) rfl) rfl rfl dX8_result_38 ?_
        refine lv_icmp_ge (tgt := 60) hx hb dX8_result_41 (by decide) (fun q => absurd q (nI_ge hk (by omega))) (fun _ => ?_)
        refine lv_lload_n hx hb dX8_result_44 rfl (lv_at hl 2 rfl) ?_
        refine lv_aload_n hx hb dX8_result_45 rfl (lv_at hl 0 rfl) ?_
        refine lv_iload hx hb dX8_result_46 (lv_at hl 3 rfl) ?_
        refine lv_iload_n hx hb dX8_result_48 rfl (lv_at hl 1 rfl) ?_
        refine xtop (y := .int (nI (tn a1))) (congrArg Value.int e_a1) ?_
        refine xcvR (As := [.int (nI k35), .int (nI (tn a1))]) (rest := [.long a35_2]) (v := some (.long (fX8_dueOf σ k35 (tn a1)))) ⟨hx, hb, hml, hown, hts⟩ (mX8_dueOf l lo D E hw σ (nI 0) r ar hR hW k35 (tn a1)  (by first | assumption | omega) (by first | assumption | omega)) (cwV 2 hts gX8_result_X8_dueOf rfl rfl rfl (by decide +kernel) ⟨Nat.le_of_ble_eq_true rfl, Nat.le_of_ble_eq_true rfl⟩) I hR.1 rfl rfl hl.1 rfl (Nat.le_of_ble_eq_true rfl) dX8_result_49 ⟨Nat.le_of_ble_eq_true rfl, Nat.le_of_ble_eq_true rfl⟩ ?_
        refine W.eq (g2 := F0 m 52 ls [.long (fX8_dueOf σ k35 (tn a1)), .long a35_2]) rfl ?_
        refine lv_ladd hx hb dX8_result_52 ?_
        refine lv_lstore_n (lv' := [(2, .long (a35_2 + (fX8_dueOf σ k35 (tn a1)))), (0, .ref r), (1, .int a1), (4, .int (nI k35))]) hx hb dX8_result_53 rfl hl (by decide) rfl (fun ls hl => ?_)
        refine lv_iinc (v := (nI (k35 + 1))) (lv' := [(4, .int (nI (k35 + 1))), (2, .long (a35_2 + (fX8_dueOf σ k35 (tn a1)))), (0, .ref r), (1, .int a1)]) hx hb dX8_result_54 hl (k := 3) rfl (nI_succ k35).symm (by decide) rfl (fun ls hl => ?_)
        refine lv_goto (tgt := 35) hx hb dX8_result_57 (by decide) ?_
        exact ih (k35 + 1) (a35_2 + (fX8_dueOf σ k35 (tn a1))) (by first | omega | (simp only [mSI_N, mSL_N]; omega)) hG ls (lv_sub hl [2, 3, 1, 0] rfl)
    exact L35 (mN σ 2) 0 (-(fX8_costIn σ (nI (tn a1)))) (by omega) hG ls (lv_sub hl [2, 3, 1, 0] rfl)

def fX8_thrown (σ : MT) (th : Int32) : Int32 := th
set_option maxHeartbeats 4000000 in
set_option maxRecDepth 100000 in
theorem mX8_thrown (l : Launch) (lo : Nat) (D : va_G) (E : Nat → ClassId) (h : XW) (σ : MT) (th : Int32) (r : Nat) (ar : Nat → Nat) (hR : RM E σ th r ar h) (hW : MW σ) : Met l yX8_thrown wsX8_thrown ({ frames := 0, cells := 0, slots := 0, locals := 0 } : Room) (xP lo D E h [.ref r]) (xR (some (.int (fX8_thrown σ th)))) 0 0 (fun _ => False) := by
  obtain ⟨G, hG⟩ : ∃ G, fX8_thrown σ th = G := ⟨_, rfl⟩
  rw [hG]
  unfold fX8_thrown at hG
  refine Met.ofW (cc := cX8_thrown) (maxL := 1) (ret := (some .int)) (by decide) rfl ?_
  intro p e s m args below meth c s₁ B hml hv
  obtain ⟨rfl, I⟩ := hv
  have hx := B.exec
  have hb := B.bytes
  have hr := B.returns
  have hts := atoms_spec (ws := wsX8_thrown) B.pre
  have hown : s.vm.findClass RX8 = some m.cls := findClass_of_methodNamed B.named
  have hlocks := B.notSynchronized
  have hl := lv_entry ([.ref r] : List Value) (n := 1) (Nat.le_of_ble_eq_true rfl)
  rw [lg_entry_eq]
  generalize (lg_sl ([.ref r] : List Value) ++ List.replicate (1 - (lg_sl ([.ref r] : List Value)).length) Slot.unset).toArray = ls at hl ⊢
  have hl : lv_has ls 1 [(0, .ref r)] := hl
  have hin8 : ∀ w ∈ u_ws RX8 TX8 37, w ∈ wsX8_thrown := fun _ h => List.mem_cons_of_mem _ (List.mem_append_right _ (h))
  have hW0 := hW
  obtain ⟨⟨w1, w2, w3, w4, w5, w6, w7⟩, w9, w12, w21, w22, w23, w25, w31, z26, z27, z28, z36⟩ := id hW
  refine lv_aload_n hx hb dX8_thrown_0 rfl (lv_at hl 0 rfl) ?_
  refine xget (C := RX8) (T := TX8) (N := 37) 0 hx hb hts hin8 hown I hR.1 rfl (by decide) (List.mem_of_getElem? (i := 1) rfl) rfl rfl dX8_thrown_1 ?_
  exact xriR hx hb hr hlocks dX8_thrown_4 hG
