set_option maxHeartbeats 4000000 in
set_option maxRecDepth 100000 in
theorem lc_pay {p : Program} {l : Launch} {e : Env} {s : State} {m : MethodId} {below : List Frame} {meth : Method} {c : Code} {b L : Nat} {xs : Nat → Int32} {Q : State → Prop} {D : va_G} {E : Nat → ClassId} {h : XW} {H : Heap} {locs : List Loc} {cells slots X r ou i : Nat} {ls : Array Slot} (F : LF p l s m c b L xs) (hI : LI E X r ou h) (I : XI s.heap.size D E h s H) (hS : va_S (xA s.heap.size) s.heap H locs) (hcs : cells + 9 ≤ 601024 ∧ slots + 65 ≤ 7293034) (hi : i + 6 ≤ L) (hL : L ≤ 3072) (hl : lv_has ls 8 [(0, .ref b), (1, .ref X), (2, .ref r), (3, .ref ou), (4, .int (nI i))])
    (kk : ∀ (h2 : XW) (H2 : Heap) (locs2 : List Loc) (ls2 : Array Slot), LI E X r ou h2 → XI s.heap.size D E h2 s H2 → va_S (xA s.heap.size) s.heap H2 locs2 → lv_has ls2 8 [(0, .ref b), (1, .ref X), (2, .ref r), (3, .ref ou), (4, .int (nI i))] → W p l e room_1 s m #[Value.ref b] below meth c H2 locs2 (cells + 9) (slots + 65) Q (F0 m 2238 ls2 [])) : W p l e room_1 s m #[Value.ref b] below meth c H locs cells slots Q (F0 m 1588 ls []) := by
  obtain ⟨hx, hb, hml, hown, hts, hX, hbl, hCa, hlst⟩ := F
  obtain ⟨σ, τ, th, ad, fa, ar, fo, hR, rfl, hM, hou, ho, hRel, hW⟩ := hI
  have hMW := hRel.MW hW
  have hbA : ¬ xA s.heap.size b := Nat.not_le.mpr hbl
  have v1 : vp_in (nI i + nI 1) L := by rw [nI_add]; exact vp_in_nI (by omega) (by omega)
  obtain ⟨a1, ea1⟩ : ∃ y : Int32, y = xs (nI i + nI 1).toNatClampNeg := ⟨_, rfl⟩
  have e1 : Value.int (xs (nI i + nI 1).toNatClampNeg) = .int a1 := by rw [ea1]
  have v2 : vp_in (nI i + nI 2) L := by rw [nI_add]; exact vp_in_nI (by omega) (by omega)
  obtain ⟨a2, ea2⟩ : ∃ y : Int32, y = xs (nI i + nI 2).toNatClampNeg := ⟨_, rfl⟩
  have e2 : Value.int (xs (nI i + nI 2).toNatClampNeg) = .int a2 := by rw [ea2]
  have q := q_pay hRel hW th a1 a2
  refine lv_aload_n hx hb dL_law_1588 rfl (lv_at hl 1 rfl) ?_
  refine lv_aload_n hx hb dL_law_1589 rfl (lv_at hl 0 rfl) ?_
  refine lv_iload hx hb dL_law_1590 (lv_at hl 4 rfl) ?_
  refine lv_iconst (v := nI 1) hx hb dL_law_1592 (by decide) ?_
  refine lv_iadd hx hb dL_law_1593 ?_
  refine va_sld hx hb hX hbl hbA hS v1 dL_law_1594 ?_
  refine xtop e1 ?_
  refine lv_aload_n hx hb dL_law_1595 rfl (lv_at hl 0 rfl) ?_
  refine lv_iload hx hb dL_law_1596 (lv_at hl 4 rfl) ?_
  refine lv_iconst (v := nI 2) hx hb dL_law_1598 (by decide) ?_
  refine lv_iadd hx hb dL_law_1599 ?_
  refine va_sld hx hb hX hbl hbA hS v2 dL_law_1600 ?_
  refine xtop e2 ?_
  refine lv_aload_n hx hb dL_law_1601 rfl (lv_at hl 3 rfl) ?_
  refine xcsW (As := [.ref (ad 0 0), .int a1, .int a2, .ref ou]) (rest := []) ⟨hx, hb, hml, hown, hts⟩ (mL_pay l s.heap.size D E h hlst (lPr r ou ar) τ ad fa hR hW ou fo (Or.inl rfl) ho a1 a2 (hE2 q)) (vx_cwSW 4 hts gL_law_L_pay rfl rfl rfl (by decide +kernel) ⟨Nat.le_of_ble_eq_true rfl, Nat.le_of_ble_eq_true rfl⟩) I hCa hS rfl hl.1 rfl (Nat.le_of_ble_eq_true rfl) dL_law_1602 ⟨show cells + 2 ≤ 601024 by omega, show slots + 12 ≤ 7293034 by omega⟩ (fun v9 h1 H locs q9 I hS => ?_)
  obtain ⟨rfl, τ1, ad1, fa1, fo1, hRel1, hW1, hR1, h00, hpr, ho1, hans⟩ := l_post (by decide) hR rfl hW ho q q9
  obtain ⟨k1, ek1⟩ : ∃ y, y = (fX8_pay σ th a1 a2).2.2 := ⟨_, rfl⟩
  refine W.eq (g2 := F0 m 1605 ls [.int (fX8_pay σ th a1 a2).2.2]) rfl ?_
  refine xtop (show Value.int (fX8_pay σ th a1 a2).2.2 = .int k1 by rw [ek1]) ?_
  refine lv_istore (lv' := [(5, .int k1), (0, .ref b), (1, .ref (ad 0 0)), (2, .ref r), (3, .ref ou), (4, .int (nI i))]) hx hb dL_law_1605 hl (by decide) rfl (fun ls hl => ?_)
  have hM1 : RM E σ th r (arN ar H.size) h1 := (hM.keep (hpr r (Or.inr (Or.inl rfl)) hou.1.symm) (fun k hk ha => hpr (ar k) (Or.inr (Or.inr ⟨k, hk, ha, rfl⟩)) (hou.2 k hk ha).symm)).re (fun b e he => I.lt b e he)
  have hB1 : ∀ b e, h1 b = some e → b < H.size := fun b e he => I.lt b e he
  refine lv_aload_n hx hb dL_law_1607 rfl (lv_at hl 3 rfl) ?_
  refine lv_aload_n hx hb dL_law_1608 rfl (lv_at hl 1 rfl) ?_
  refine lv_iload hx hb dL_law_1609 (lv_at hl 5 rfl) ?_
  refine lv_iconst (v := nI 1) hx hb dL_law_1611 (by decide) ?_
  refine lv_iadd hx hb dL_law_1612 ?_
  refine va_sld hx hb hX hbl hbA hS v1 dL_law_1613 ?_
  refine xtop e1 ?_
  refine lv_aload_n hx hb dL_law_1614 rfl (lv_at hl 1 rfl) ?_
  refine lv_iload hx hb dL_law_1615 (lv_at hl 5 rfl) ?_
  refine lv_iconst (v := nI 2) hx hb dL_law_1617 (by decide) ?_
  refine lv_iadd hx hb dL_law_1618 ?_
  refine va_sld hx hb hX hbl hbA hS v2 dL_law_1619 ?_
  refine xtop e2 ?_
  refine xcvQ (As := [.int a1, .int a2]) (rest := []) ⟨hx, hb, hml, hown, hts⟩ (mX8_pay l s.heap.size D E h1 σ th r (arN ar H.size) hM1 hMW a1 a2) (cwV 2 hts gL_law_X8_pay rfl rfl rfl (by decide +kernel) ⟨Nat.le_of_ble_eq_true rfl, Nat.le_of_ble_eq_true rfl⟩) I hS hM1.1 rfl rfl hl.1 rfl (Nat.le_of_ble_eq_true rfl) dL_law_1620 ⟨show cells + 2 + 0 ≤ 601024 by omega, show slots + 12 + 0 ≤ 7293034 by omega⟩ (fun v9 h2 H2 locs q9 I hS => ?_)
  obtain ⟨rfl, hM2, hF2⟩ := q9
  obtain ⟨ho2, hLI⟩ := l_next hR1 h00 hM2 hB1 hF2 hou ho1 hRel1 hW1
  obtain ⟨f1, ef1⟩ : ∃ y, y = (fX8_pay σ th a1 a2).1 := ⟨_, rfl⟩
  refine W.eq (g2 := F0 m 1623 ls [.long (fX8_pay σ th a1 a2).1]) rfl ?_
  refine xtop (show Value.long (fX8_pay σ th a1 a2).1 = .long f1 by rw [ef1]) ?_
  refine lv_lstore (lv' := [(6, .long f1), (5, .int k1), (0, .ref b), (1, .ref (ad 0 0)), (2, .ref r), (3, .ref ou), (4, .int (nI i))]) hx hb dL_law_1623 hl (by decide) rfl (fun ls hl => ?_)
  refine lv_aload_n hx hb dL_law_1625 rfl (lv_at hl 4 rfl) ?_
  refine xcvR (As := ([] : List Value)) (rest := []) ⟨hx, hb, hml, hown, hts⟩ (mX8_thrown l s.heap.size D E h2 _ _ r _ hM2 (hRel1.MW hW1)) (cwV 0 hts gL_law_X8_thrown rfl rfl rfl (by decide +kernel) ⟨Nat.le_of_ble_eq_true rfl, Nat.le_of_ble_eq_true rfl⟩) I hM2.1 rfl rfl hl.1 rfl (Nat.le_of_ble_eq_true rfl) dL_law_1626 ⟨show cells + 2 + 0 + 0 ≤ 601024 by omega, show slots + 12 + 0 + 0 ≤ 7293034 by omega⟩ ?_
  refine W.eq (g2 := F0 m 1629 ls [.int (fX8_pay σ th a1 a2).2.2]) rfl ?_
  refine xtop (show Value.int (fX8_pay σ th a1 a2).2.2 = .int k1 by rw [ek1]) ?_
  refine lv_iload hx hb dL_law_1629 (lv_at hl 1 rfl) ?_
  refine lv_icmp_eq (tgt := 1636) hx hb dL_law_1631 (by decide) (fun c1 => ?_) (fun c1 => absurd rfl c1)
  refine lv_iload hx hb dL_law_1636 (lv_at hl 1 rfl) ?_
  refine lv_if_ne (tgt := 1652) hx hb dL_law_1638 (by decide) (fun c2 => ?_) (fun c2 => ?_)
  · refine lv_goto (tgt := 2238) hx hb dL_law_1652 (by decide) ?_
    exact W.widen (by omega) (by omega) (kk _ _ _ _ hLI I hS (lv_sub hl [2, 3, 4, 5, 6] rfl))
  · have hk0 : (fX8_pay σ th a1 a2).2.2 = nI 0 := by rw [← ek1]; exact c2
    have hval : fo1 0 = (fX8_pay σ th a1 a2).1 := hans hk0 _ rfl
    refine lv_aload_n hx hb dL_law_1641 rfl (lv_at hl 5 rfl) ?_
    refine lv_iconst (v := nI 0) hx hb dL_law_1642 (by decide) ?_
    refine xlald (i := 0) (n := 1) hx hb I ho2 (by decide) (by decide) dL_law_1643 ?_
    refine lv_lload hx hb dL_law_1644 (lv_at hl 0 rfl) ?_
    refine xl_eq (tgt := 1652) hx hb dL_law_1646 dL_law_1647 (by decide) (fun _ => ?_) (fun z => absurd (by rw [hval, ef1]) z)
    refine lv_goto (tgt := 2238) hx hb dL_law_1652 (by decide) ?_
    exact W.widen (by omega) (by omega) (kk _ _ _ _ hLI I hS (lv_sub hl [2, 3, 4, 5, 6] rfl))
set_option maxHeartbeats 4000000 in
set_option maxRecDepth 100000 in
theorem lc_stop {p : Program} {l : Launch} {e : Env} {s : State} {m : MethodId} {below : List Frame} {meth : Method} {c : Code} {b L : Nat} {xs : Nat → Int32} {Q : State → Prop} {D : va_G} {E : Nat → ClassId} {h : XW} {H : Heap} {locs : List Loc} {cells slots X r ou i : Nat} {ls : Array Slot} (F : LF p l s m c b L xs) (hI : LI E X r ou h) (I : XI s.heap.size D E h s H) (hS : va_S (xA s.heap.size) s.heap H locs) (hcs : cells + 9 ≤ 601024 ∧ slots + 65 ≤ 7293034) (hi : i + 6 ≤ L) (hL : L ≤ 3072) (hl : lv_has ls 8 [(0, .ref b), (1, .ref X), (2, .ref r), (3, .ref ou), (4, .int (nI i))])
    (kk : ∀ (h2 : XW) (H2 : Heap) (locs2 : List Loc) (ls2 : Array Slot), LI E X r ou h2 → XI s.heap.size D E h2 s H2 → va_S (xA s.heap.size) s.heap H2 locs2 → lv_has ls2 8 [(0, .ref b), (1, .ref X), (2, .ref r), (3, .ref ou), (4, .int (nI i))] → W p l e room_1 s m #[Value.ref b] below meth c H2 locs2 (cells + 9) (slots + 65) Q (F0 m 2238 ls2 [])) : W p l e room_1 s m #[Value.ref b] below meth c H locs cells slots Q (F0 m 1655 ls []) := by
  obtain ⟨hx, hb, hml, hown, hts, hX, hbl, hCa, hlst⟩ := F
  obtain ⟨σ, τ, th, ad, fa, ar, fo, hR, rfl, hM, hou, ho, hRel, hW⟩ := hI
  have hMW := hRel.MW hW
  have hbA : ¬ xA s.heap.size b := Nat.not_le.mpr hbl
  have v1 : vp_in (nI i + nI 1) L := by rw [nI_add]; exact vp_in_nI (by omega) (by omega)
  obtain ⟨a1, ea1⟩ : ∃ y : Int32, y = xs (nI i + nI 1).toNatClampNeg := ⟨_, rfl⟩
  have e1 : Value.int (xs (nI i + nI 1).toNatClampNeg) = .int a1 := by rw [ea1]
  have v2 : vp_in (nI i + nI 2) L := by rw [nI_add]; exact vp_in_nI (by omega) (by omega)
  obtain ⟨a2, ea2⟩ : ∃ y : Int32, y = xs (nI i + nI 2).toNatClampNeg := ⟨_, rfl⟩
  have e2 : Value.int (xs (nI i + nI 2).toNatClampNeg) = .int a2 := by rw [ea2]
  have q := q_stop hRel hW th a1 a2
  refine lv_aload_n hx hb dL_law_1655 rfl (lv_at hl 1 rfl) ?_
  refine lv_aload_n hx hb dL_law_1656 rfl (lv_at hl 0 rfl) ?_
  refine lv_iload hx hb dL_law_1657 (lv_at hl 4 rfl) ?_
  refine lv_iconst (v := nI 1) hx hb dL_law_1659 (by decide) ?_
  refine lv_iadd hx hb dL_law_1660 ?_
  refine va_sld hx hb hX hbl hbA hS v1 dL_law_1661 ?_
  refine xtop e1 ?_
  refine lv_aload_n hx hb dL_law_1662 rfl (lv_at hl 0 rfl) ?_
  refine lv_iload hx hb dL_law_1663 (lv_at hl 4 rfl) ?_
  refine lv_iconst (v := nI 2) hx hb dL_law_1665 (by decide) ?_
  refine lv_iadd hx hb dL_law_1666 ?_
  refine va_sld hx hb hX hbl hbA hS v2 dL_law_1667 ?_
  refine xtop e2 ?_
  refine lv_aload_n hx hb dL_law_1668 rfl (lv_at hl 3 rfl) ?_
  refine xcsW (As := [.ref (ad 0 0), .int a1, .int a2, .ref ou]) (rest := []) ⟨hx, hb, hml, hown, hts⟩ (mL_stop l s.heap.size D E h hlst (lPr r ou ar) τ ad fa hR hW ou fo (Or.inl rfl) ho a1 a2 (hE3 q)) (vx_cwSW 4 hts gL_law_L_stop rfl rfl rfl (by decide +kernel) ⟨Nat.le_of_ble_eq_true rfl, Nat.le_of_ble_eq_true rfl⟩) I hCa hS rfl hl.1 rfl (Nat.le_of_ble_eq_true rfl) dL_law_1669 ⟨show cells + 3 ≤ 601024 by omega, show slots + 18 ≤ 7293034 by omega⟩ (fun v9 h1 H locs q9 I hS => ?_)
  obtain ⟨rfl, τ1, ad1, fa1, fo1, hRel1, hW1, hR1, h00, hpr, ho1, hans⟩ := l_post (by decide) hR rfl hW ho q q9
  obtain ⟨k1, ek1⟩ : ∃ y, y = (fX8_stop σ th a1 a2).2.2 := ⟨_, rfl⟩
  refine W.eq (g2 := F0 m 1672 ls [.int (fX8_stop σ th a1 a2).2.2]) rfl ?_
  refine xtop (show Value.int (fX8_stop σ th a1 a2).2.2 = .int k1 by rw [ek1]) ?_
  refine lv_istore (lv' := [(5, .int k1), (0, .ref b), (1, .ref (ad 0 0)), (2, .ref r), (3, .ref ou), (4, .int (nI i))]) hx hb dL_law_1672 hl (by decide) rfl (fun ls hl => ?_)
  have hM1 : RM E σ th r (arN ar H.size) h1 := (hM.keep (hpr r (Or.inr (Or.inl rfl)) hou.1.symm) (fun k hk ha => hpr (ar k) (Or.inr (Or.inr ⟨k, hk, ha, rfl⟩)) (hou.2 k hk ha).symm)).re (fun b e he => I.lt b e he)
  have hB1 : ∀ b e, h1 b = some e → b < H.size := fun b e he => I.lt b e he
  refine lv_aload_n hx hb dL_law_1674 rfl (lv_at hl 3 rfl) ?_
  refine lv_aload_n hx hb dL_law_1675 rfl (lv_at hl 1 rfl) ?_
  refine lv_iload hx hb dL_law_1676 (lv_at hl 5 rfl) ?_
  refine lv_iconst (v := nI 1) hx hb dL_law_1678 (by decide) ?_
  refine lv_iadd hx hb dL_law_1679 ?_
  refine va_sld hx hb hX hbl hbA hS v1 dL_law_1680 ?_
  refine xtop e1 ?_
  refine lv_aload_n hx hb dL_law_1681 rfl (lv_at hl 1 rfl) ?_
  refine lv_iload hx hb dL_law_1682 (lv_at hl 5 rfl) ?_
  refine lv_iconst (v := nI 2) hx hb dL_law_1684 (by decide) ?_
  refine lv_iadd hx hb dL_law_1685 ?_
  refine va_sld hx hb hX hbl hbA hS v2 dL_law_1686 ?_
  refine xtop e2 ?_
  refine xcvQ (As := [.int a1, .int a2]) (rest := []) ⟨hx, hb, hml, hown, hts⟩ (mX8_stop l s.heap.size D E h1 σ th r (arN ar H.size) hM1 hMW a1 a2) (cwV 2 hts gL_law_X8_stop rfl rfl rfl (by decide +kernel) ⟨Nat.le_of_ble_eq_true rfl, Nat.le_of_ble_eq_true rfl⟩) I hS hM1.1 rfl rfl hl.1 rfl (Nat.le_of_ble_eq_true rfl) dL_law_1687 ⟨show cells + 3 + 0 ≤ 601024 by omega, show slots + 18 + 0 ≤ 7293034 by omega⟩ (fun v9 h2 H2 locs q9 I hS => ?_)
  obtain ⟨rfl, hM2, hF2⟩ := q9
  obtain ⟨ho2, hLI⟩ := l_next hR1 h00 hM2 hB1 hF2 hou ho1 hRel1 hW1
  obtain ⟨f1, ef1⟩ : ∃ y, y = (fX8_stop σ th a1 a2).1 := ⟨_, rfl⟩
  refine W.eq (g2 := F0 m 1690 ls [.int (fX8_stop σ th a1 a2).1]) rfl ?_
  refine xtop (show Value.int (fX8_stop σ th a1 a2).1 = .int f1 by rw [ef1]) ?_
  refine lv_istore (lv' := [(6, .int f1), (5, .int k1), (0, .ref b), (1, .ref (ad 0 0)), (2, .ref r), (3, .ref ou), (4, .int (nI i))]) hx hb dL_law_1690 hl (by decide) rfl (fun ls hl => ?_)
  refine lv_aload_n hx hb dL_law_1692 rfl (lv_at hl 4 rfl) ?_
  refine xcvR (As := ([] : List Value)) (rest := []) ⟨hx, hb, hml, hown, hts⟩ (mX8_thrown l s.heap.size D E h2 _ _ r _ hM2 (hRel1.MW hW1)) (cwV 0 hts gL_law_X8_thrown rfl rfl rfl (by decide +kernel) ⟨Nat.le_of_ble_eq_true rfl, Nat.le_of_ble_eq_true rfl⟩) I hM2.1 rfl rfl hl.1 rfl (Nat.le_of_ble_eq_true rfl) dL_law_1693 ⟨show cells + 3 + 0 + 0 ≤ 601024 by omega, show slots + 18 + 0 + 0 ≤ 7293034 by omega⟩ ?_
  refine W.eq (g2 := F0 m 1696 ls [.int (fX8_stop σ th a1 a2).2.2]) rfl ?_
  refine xtop (show Value.int (fX8_stop σ th a1 a2).2.2 = .int k1 by rw [ek1]) ?_
  refine lv_iload hx hb dL_law_1696 (lv_at hl 1 rfl) ?_
  refine lv_icmp_eq (tgt := 1703) hx hb dL_law_1698 (by decide) (fun c1 => ?_) (fun c1 => absurd rfl c1)
  refine lv_iload hx hb dL_law_1703 (lv_at hl 1 rfl) ?_
  refine lv_if_ne (tgt := 1720) hx hb dL_law_1705 (by decide) (fun c2 => ?_) (fun c2 => ?_)
  · refine lv_goto (tgt := 2238) hx hb dL_law_1720 (by decide) ?_
    exact W.widen (by omega) (by omega) (kk _ _ _ _ hLI I hS (lv_sub hl [2, 3, 4, 5, 6] rfl))
  · have hk0 : (fX8_stop σ th a1 a2).2.2 = nI 0 := by rw [← ek1]; exact c2
    have hval : fo1 0 = (fX8_stop σ th a1 a2).1.toInt64 := hans hk0 _ rfl
    refine lv_aload_n hx hb dL_law_1708 rfl (lv_at hl 5 rfl) ?_
    refine lv_iconst (v := nI 0) hx hb dL_law_1709 (by decide) ?_
    refine xlald (i := 0) (n := 1) hx hb I ho2 (by decide) (by decide) dL_law_1710 ?_
    refine lv_iload hx hb dL_law_1711 (lv_at hl 0 rfl) ?_
    refine lv_i2l (v := f1.toInt64) hx hb dL_law_1713 rfl ?_
    refine xl_eq (tgt := 1720) hx hb dL_law_1714 dL_law_1715 (by decide) (fun _ => ?_) (fun z => absurd (by rw [hval, ef1]) z)
    refine lv_goto (tgt := 2238) hx hb dL_law_1720 (by decide) ?_
    exact W.widen (by omega) (by omega) (kk _ _ _ _ hLI I hS (lv_sub hl [2, 3, 4, 5, 6] rfl))
set_option maxHeartbeats 4000000 in
set_option maxRecDepth 100000 in
theorem lc_close {p : Program} {l : Launch} {e : Env} {s : State} {m : MethodId} {below : List Frame} {meth : Method} {c : Code} {b L : Nat} {xs : Nat → Int32} {Q : State → Prop} {D : va_G} {E : Nat → ClassId} {h : XW} {H : Heap} {locs : List Loc} {cells slots X r ou i : Nat} {ls : Array Slot} (F : LF p l s m c b L xs) (hI : LI E X r ou h) (I : XI s.heap.size D E h s H) (hS : va_S (xA s.heap.size) s.heap H locs) (hcs : cells + 9 ≤ 601024 ∧ slots + 65 ≤ 7293034) (hi : i + 6 ≤ L) (hL : L ≤ 3072) (hl : lv_has ls 8 [(0, .ref b), (1, .ref X), (2, .ref r), (3, .ref ou), (4, .int (nI i))])
    (kk : ∀ (h2 : XW) (H2 : Heap) (locs2 : List Loc) (ls2 : Array Slot), LI E X r ou h2 → XI s.heap.size D E h2 s H2 → va_S (xA s.heap.size) s.heap H2 locs2 → lv_has ls2 8 [(0, .ref b), (1, .ref X), (2, .ref r), (3, .ref ou), (4, .int (nI i))] → W p l e room_1 s m #[Value.ref b] below meth c H2 locs2 (cells + 9) (slots + 65) Q (F0 m 2238 ls2 [])) : W p l e room_1 s m #[Value.ref b] below meth c H locs cells slots Q (F0 m 1723 ls []) := by
  obtain ⟨hx, hb, hml, hown, hts, hX, hbl, hCa, hlst⟩ := F
  obtain ⟨σ, τ, th, ad, fa, ar, fo, hR, rfl, hM, hou, ho, hRel, hW⟩ := hI
  have hMW := hRel.MW hW
  have hbA : ¬ xA s.heap.size b := Nat.not_le.mpr hbl
  have v1 : vp_in (nI i + nI 1) L := by rw [nI_add]; exact vp_in_nI (by omega) (by omega)
  obtain ⟨a1, ea1⟩ : ∃ y : Int32, y = xs (nI i + nI 1).toNatClampNeg := ⟨_, rfl⟩
  have e1 : Value.int (xs (nI i + nI 1).toNatClampNeg) = .int a1 := by rw [ea1]
  have q := q_close hRel hW th a1
  refine lv_aload_n hx hb dL_law_1723 rfl (lv_at hl 1 rfl) ?_
  refine lv_aload_n hx hb dL_law_1724 rfl (lv_at hl 0 rfl) ?_
  refine lv_iload hx hb dL_law_1725 (lv_at hl 4 rfl) ?_
  refine lv_iconst (v := nI 1) hx hb dL_law_1727 (by decide) ?_
  refine lv_iadd hx hb dL_law_1728 ?_
  refine va_sld hx hb hX hbl hbA hS v1 dL_law_1729 ?_
  refine xtop e1 ?_
  refine lv_aload_n hx hb dL_law_1730 rfl (lv_at hl 3 rfl) ?_
  refine xcsW (As := [.ref (ad 0 0), .int a1, .ref ou]) (rest := []) ⟨hx, hb, hml, hown, hts⟩ (mL_close l s.heap.size D E h hlst (lPr r ou ar) τ ad fa hR hW ou fo (Or.inl rfl) ho a1 (hE2 q)) (vx_cwSW 3 hts gL_law_L_close rfl rfl rfl (by decide +kernel) ⟨Nat.le_of_ble_eq_true rfl, Nat.le_of_ble_eq_true rfl⟩) I hCa hS rfl hl.1 rfl (Nat.le_of_ble_eq_true rfl) dL_law_1731 ⟨show cells + 3 ≤ 601024 by omega, show slots + 18 ≤ 7293034 by omega⟩ (fun v9 h1 H locs q9 I hS => ?_)
  obtain ⟨rfl, τ1, ad1, fa1, fo1, hRel1, hW1, hR1, h00, hpr, ho1, hans⟩ := l_post (by decide) hR rfl hW ho q q9
  obtain ⟨k1, ek1⟩ : ∃ y, y = (fX8_close σ th a1).2.2 := ⟨_, rfl⟩
  refine W.eq (g2 := F0 m 1734 ls [.int (fX8_close σ th a1).2.2]) rfl ?_
  refine xtop (show Value.int (fX8_close σ th a1).2.2 = .int k1 by rw [ek1]) ?_
  refine lv_istore (lv' := [(5, .int k1), (0, .ref b), (1, .ref (ad 0 0)), (2, .ref r), (3, .ref ou), (4, .int (nI i))]) hx hb dL_law_1734 hl (by decide) rfl (fun ls hl => ?_)
  have hM1 : RM E σ th r (arN ar H.size) h1 := (hM.keep (hpr r (Or.inr (Or.inl rfl)) hou.1.symm) (fun k hk ha => hpr (ar k) (Or.inr (Or.inr ⟨k, hk, ha, rfl⟩)) (hou.2 k hk ha).symm)).re (fun b e he => I.lt b e he)
  have hB1 : ∀ b e, h1 b = some e → b < H.size := fun b e he => I.lt b e he
  refine lv_aload_n hx hb dL_law_1736 rfl (lv_at hl 3 rfl) ?_
  refine lv_aload_n hx hb dL_law_1737 rfl (lv_at hl 1 rfl) ?_
  refine lv_iload hx hb dL_law_1738 (lv_at hl 5 rfl) ?_
  refine lv_iconst (v := nI 1) hx hb dL_law_1740 (by decide) ?_
  refine lv_iadd hx hb dL_law_1741 ?_
  refine va_sld hx hb hX hbl hbA hS v1 dL_law_1742 ?_
  refine xtop e1 ?_
  refine xcvQ (As := [.int a1]) (rest := []) ⟨hx, hb, hml, hown, hts⟩ (mX8_close l s.heap.size D E h1 σ th r (arN ar H.size) hM1 hMW a1) (cwV 1 hts gL_law_X8_close rfl rfl rfl (by decide +kernel) ⟨Nat.le_of_ble_eq_true rfl, Nat.le_of_ble_eq_true rfl⟩) I hS hM1.1 rfl rfl hl.1 rfl (Nat.le_of_ble_eq_true rfl) dL_law_1743 ⟨show cells + 3 + 0 ≤ 601024 by omega, show slots + 18 + 0 ≤ 7293034 by omega⟩ (fun v9 h2 H2 locs q9 I hS => ?_)
  obtain ⟨rfl, hM2, hF2⟩ := q9
  obtain ⟨ho2, hLI⟩ := l_next hR1 h00 hM2 hB1 hF2 hou ho1 hRel1 hW1
  obtain ⟨f1, ef1⟩ : ∃ y, y = (fX8_close σ th a1).1 := ⟨_, rfl⟩
  refine W.eq (g2 := F0 m 1746 ls [.long (fX8_close σ th a1).1]) rfl ?_
  refine xtop (show Value.long (fX8_close σ th a1).1 = .long f1 by rw [ef1]) ?_
  refine lv_lstore (lv' := [(6, .long f1), (5, .int k1), (0, .ref b), (1, .ref (ad 0 0)), (2, .ref r), (3, .ref ou), (4, .int (nI i))]) hx hb dL_law_1746 hl (by decide) rfl (fun ls hl => ?_)
  refine lv_aload_n hx hb dL_law_1748 rfl (lv_at hl 4 rfl) ?_
  refine xcvR (As := ([] : List Value)) (rest := []) ⟨hx, hb, hml, hown, hts⟩ (mX8_thrown l s.heap.size D E h2 _ _ r _ hM2 (hRel1.MW hW1)) (cwV 0 hts gL_law_X8_thrown rfl rfl rfl (by decide +kernel) ⟨Nat.le_of_ble_eq_true rfl, Nat.le_of_ble_eq_true rfl⟩) I hM2.1 rfl rfl hl.1 rfl (Nat.le_of_ble_eq_true rfl) dL_law_1749 ⟨show cells + 3 + 0 + 0 ≤ 601024 by omega, show slots + 18 + 0 + 0 ≤ 7293034 by omega⟩ ?_
  refine W.eq (g2 := F0 m 1752 ls [.int (fX8_close σ th a1).2.2]) rfl ?_
  refine xtop (show Value.int (fX8_close σ th a1).2.2 = .int k1 by rw [ek1]) ?_
  refine lv_iload hx hb dL_law_1752 (lv_at hl 1 rfl) ?_
  refine lv_icmp_eq (tgt := 1759) hx hb dL_law_1754 (by decide) (fun c1 => ?_) (fun c1 => absurd rfl c1)
  refine lv_iload hx hb dL_law_1759 (lv_at hl 1 rfl) ?_
  refine lv_if_ne (tgt := 1775) hx hb dL_law_1761 (by decide) (fun c2 => ?_) (fun c2 => ?_)
  · refine lv_goto (tgt := 2238) hx hb dL_law_1775 (by decide) ?_
    exact W.widen (by omega) (by omega) (kk _ _ _ _ hLI I hS (lv_sub hl [2, 3, 4, 5, 6] rfl))
  · have hk0 : (fX8_close σ th a1).2.2 = nI 0 := by rw [← ek1]; exact c2
    have hval : fo1 0 = (fX8_close σ th a1).1 := hans hk0 _ rfl
    refine lv_aload_n hx hb dL_law_1764 rfl (lv_at hl 5 rfl) ?_
    refine lv_iconst (v := nI 0) hx hb dL_law_1765 (by decide) ?_
    refine xlald (i := 0) (n := 1) hx hb I ho2 (by decide) (by decide) dL_law_1766 ?_
    refine lv_lload hx hb dL_law_1767 (lv_at hl 0 rfl) ?_
    refine xl_eq (tgt := 1775) hx hb dL_law_1769 dL_law_1770 (by decide) (fun _ => ?_) (fun z => absurd (by rw [hval, ef1]) z)
    refine lv_goto (tgt := 2238) hx hb dL_law_1775 (by decide) ?_
    exact W.widen (by omega) (by omega) (kk _ _ _ _ hLI I hS (lv_sub hl [2, 3, 4, 5, 6] rfl))
set_option maxHeartbeats 4000000 in
set_option maxRecDepth 100000 in
theorem lc_due {p : Program} {l : Launch} {e : Env} {s : State} {m : MethodId} {below : List Frame} {meth : Method} {c : Code} {b L : Nat} {xs : Nat → Int32} {Q : State → Prop} {D : va_G} {E : Nat → ClassId} {h : XW} {H : Heap} {locs : List Loc} {cells slots X r ou i : Nat} {ls : Array Slot} (F : LF p l s m c b L xs) (hI : LI E X r ou h) (I : XI s.heap.size D E h s H) (hS : va_S (xA s.heap.size) s.heap H locs) (hcs : cells + 9 ≤ 601024 ∧ slots + 65 ≤ 7293034) (hi : i + 6 ≤ L) (hL : L ≤ 3072) (hl : lv_has ls 8 [(0, .ref b), (1, .ref X), (2, .ref r), (3, .ref ou), (4, .int (nI i))])
    (kk : ∀ (h2 : XW) (H2 : Heap) (locs2 : List Loc) (ls2 : Array Slot), LI E X r ou h2 → XI s.heap.size D E h2 s H2 → va_S (xA s.heap.size) s.heap H2 locs2 → lv_has ls2 8 [(0, .ref b), (1, .ref X), (2, .ref r), (3, .ref ou), (4, .int (nI i))] → W p l e room_1 s m #[Value.ref b] below meth c H2 locs2 (cells + 9) (slots + 65) Q (F0 m 2238 ls2 [])) : W p l e room_1 s m #[Value.ref b] below meth c H locs cells slots Q (F0 m 1778 ls []) := by
  obtain ⟨hx, hb, hml, hown, hts, hX, hbl, hCa, hlst⟩ := F
  obtain ⟨σ, τ, th, ad, fa, ar, fo, hR, rfl, hM, hou, ho, hRel, hW⟩ := hI
  have hMW := hRel.MW hW
  have hbA : ¬ xA s.heap.size b := Nat.not_le.mpr hbl
  have v1 : vp_in (nI i + nI 1) L := by rw [nI_add]; exact vp_in_nI (by omega) (by omega)
  obtain ⟨a1, ea1⟩ : ∃ y : Int32, y = xs (nI i + nI 1).toNatClampNeg := ⟨_, rfl⟩
  have e1 : Value.int (xs (nI i + nI 1).toNatClampNeg) = .int a1 := by rw [ea1]
  have v2 : vp_in (nI i + nI 2) L := by rw [nI_add]; exact vp_in_nI (by omega) (by omega)
  obtain ⟨a2, ea2⟩ : ∃ y : Int32, y = xs (nI i + nI 2).toNatClampNeg := ⟨_, rfl⟩
  have e2 : Value.int (xs (nI i + nI 2).toNatClampNeg) = .int a2 := by rw [ea2]
  have q := q_due hRel hW th a1 a2
  refine lv_aload_n hx hb dL_law_1778 rfl (lv_at hl 1 rfl) ?_
  refine lv_aload_n hx hb dL_law_1779 rfl (lv_at hl 0 rfl) ?_
  refine lv_iload hx hb dL_law_1780 (lv_at hl 4 rfl) ?_
  refine lv_iconst (v := nI 1) hx hb dL_law_1782 (by decide) ?_
  refine lv_iadd hx hb dL_law_1783 ?_
  refine va_sld hx hb hX hbl hbA hS v1 dL_law_1784 ?_
  refine xtop e1 ?_
  refine lv_aload_n hx hb dL_law_1785 rfl (lv_at hl 0 rfl) ?_
  refine lv_iload hx hb dL_law_1786 (lv_at hl 4 rfl) ?_
  refine lv_iconst (v := nI 2) hx hb dL_law_1788 (by decide) ?_
  refine lv_iadd hx hb dL_law_1789 ?_
  refine va_sld hx hb hX hbl hbA hS v2 dL_law_1790 ?_
  refine xtop e2 ?_
  refine lv_aload_n hx hb dL_law_1791 rfl (lv_at hl 3 rfl) ?_
  refine xcsW (As := [.ref (ad 0 0), .int a1, .int a2, .ref ou]) (rest := []) ⟨hx, hb, hml, hown, hts⟩ (mL_due l s.heap.size D E h hlst (lPr r ou ar) τ ad fa hR hW ou fo (Or.inl rfl) ho a1 a2 (hE2 q)) (vx_cwSW 4 hts gL_law_L_due rfl rfl rfl (by decide +kernel) ⟨Nat.le_of_ble_eq_true rfl, Nat.le_of_ble_eq_true rfl⟩) I hCa hS rfl hl.1 rfl (Nat.le_of_ble_eq_true rfl) dL_law_1792 ⟨show cells + 2 ≤ 601024 by omega, show slots + 12 ≤ 7293034 by omega⟩ (fun v9 h1 H locs q9 I hS => ?_)
  obtain ⟨rfl, τ1, ad1, fa1, fo1, hRel1, hW1, hR1, h00, hpr, ho1, hans⟩ := l_post (by decide) hR rfl hW ho q q9
  obtain ⟨k1, ek1⟩ : ∃ y, y = (fX8_due σ th a1 a2).2.2 := ⟨_, rfl⟩
  refine W.eq (g2 := F0 m 1795 ls [.int (fX8_due σ th a1 a2).2.2]) rfl ?_
  refine xtop (show Value.int (fX8_due σ th a1 a2).2.2 = .int k1 by rw [ek1]) ?_
  refine lv_istore (lv' := [(5, .int k1), (0, .ref b), (1, .ref (ad 0 0)), (2, .ref r), (3, .ref ou), (4, .int (nI i))]) hx hb dL_law_1795 hl (by decide) rfl (fun ls hl => ?_)
  have hM1 : RM E σ th r (arN ar H.size) h1 := (hM.keep (hpr r (Or.inr (Or.inl rfl)) hou.1.symm) (fun k hk ha => hpr (ar k) (Or.inr (Or.inr ⟨k, hk, ha, rfl⟩)) (hou.2 k hk ha).symm)).re (fun b e he => I.lt b e he)
  have hB1 : ∀ b e, h1 b = some e → b < H.size := fun b e he => I.lt b e he
  refine lv_aload_n hx hb dL_law_1797 rfl (lv_at hl 3 rfl) ?_
  refine lv_aload_n hx hb dL_law_1798 rfl (lv_at hl 1 rfl) ?_
  refine lv_iload hx hb dL_law_1799 (lv_at hl 5 rfl) ?_
  refine lv_iconst (v := nI 1) hx hb dL_law_1801 (by decide) ?_
  refine lv_iadd hx hb dL_law_1802 ?_
  refine va_sld hx hb hX hbl hbA hS v1 dL_law_1803 ?_
  refine xtop e1 ?_
  refine lv_aload_n hx hb dL_law_1804 rfl (lv_at hl 1 rfl) ?_
  refine lv_iload hx hb dL_law_1805 (lv_at hl 5 rfl) ?_
  refine lv_iconst (v := nI 2) hx hb dL_law_1807 (by decide) ?_
  refine lv_iadd hx hb dL_law_1808 ?_
  refine va_sld hx hb hX hbl hbA hS v2 dL_law_1809 ?_
  refine xtop e2 ?_
  refine xcvQ (As := [.int a1, .int a2]) (rest := []) ⟨hx, hb, hml, hown, hts⟩ (mX8_due l s.heap.size D E h1 σ th r (arN ar H.size) hM1 hMW a1 a2) (cwV 2 hts gL_law_X8_due rfl rfl rfl (by decide +kernel) ⟨Nat.le_of_ble_eq_true rfl, Nat.le_of_ble_eq_true rfl⟩) I hS hM1.1 rfl rfl hl.1 rfl (Nat.le_of_ble_eq_true rfl) dL_law_1810 ⟨show cells + 2 + 0 ≤ 601024 by omega, show slots + 12 + 0 ≤ 7293034 by omega⟩ (fun v9 h2 H2 locs q9 I hS => ?_)
  obtain ⟨rfl, hM2, hF2⟩ := q9
  obtain ⟨ho2, hLI⟩ := l_next hR1 h00 hM2 hB1 hF2 hou ho1 hRel1 hW1
  obtain ⟨f1, ef1⟩ : ∃ y, y = (fX8_due σ th a1 a2).1 := ⟨_, rfl⟩
  refine W.eq (g2 := F0 m 1813 ls [.long (fX8_due σ th a1 a2).1]) rfl ?_
  refine xtop (show Value.long (fX8_due σ th a1 a2).1 = .long f1 by rw [ef1]) ?_
  refine lv_lstore (lv' := [(6, .long f1), (5, .int k1), (0, .ref b), (1, .ref (ad 0 0)), (2, .ref r), (3, .ref ou), (4, .int (nI i))]) hx hb dL_law_1813 hl (by decide) rfl (fun ls hl => ?_)
  refine lv_aload_n hx hb dL_law_1815 rfl (lv_at hl 4 rfl) ?_
  refine xcvR (As := ([] : List Value)) (rest := []) ⟨hx, hb, hml, hown, hts⟩ (mX8_thrown l s.heap.size D E h2 _ _ r _ hM2 (hRel1.MW hW1)) (cwV 0 hts gL_law_X8_thrown rfl rfl rfl (by decide +kernel) ⟨Nat.le_of_ble_eq_true rfl, Nat.le_of_ble_eq_true rfl⟩) I hM2.1 rfl rfl hl.1 rfl (Nat.le_of_ble_eq_true rfl) dL_law_1816 ⟨show cells + 2 + 0 + 0 ≤ 601024 by omega, show slots + 12 + 0 + 0 ≤ 7293034 by omega⟩ ?_
  refine W.eq (g2 := F0 m 1819 ls [.int (fX8_due σ th a1 a2).2.2]) rfl ?_
  refine xtop (show Value.int (fX8_due σ th a1 a2).2.2 = .int k1 by rw [ek1]) ?_
  refine lv_iload hx hb dL_law_1819 (lv_at hl 1 rfl) ?_
  refine lv_icmp_eq (tgt := 1826) hx hb dL_law_1821 (by decide) (fun c1 => ?_) (fun c1 => absurd rfl c1)
  refine lv_iload hx hb dL_law_1826 (lv_at hl 1 rfl) ?_
  refine lv_if_ne (tgt := 1842) hx hb dL_law_1828 (by decide) (fun c2 => ?_) (fun c2 => ?_)
  · refine lv_goto (tgt := 2238) hx hb dL_law_1842 (by decide) ?_
    exact W.widen (by omega) (by omega) (kk _ _ _ _ hLI I hS (lv_sub hl [2, 3, 4, 5, 6] rfl))
  · have hk0 : (fX8_due σ th a1 a2).2.2 = nI 0 := by rw [← ek1]; exact c2
    have hval : fo1 0 = (fX8_due σ th a1 a2).1 := hans hk0 _ rfl
    refine lv_aload_n hx hb dL_law_1831 rfl (lv_at hl 5 rfl) ?_
    refine lv_iconst (v := nI 0) hx hb dL_law_1832 (by decide) ?_
    refine xlald (i := 0) (n := 1) hx hb I ho2 (by decide) (by decide) dL_law_1833 ?_
    refine lv_lload hx hb dL_law_1834 (lv_at hl 0 rfl) ?_
    refine xl_eq (tgt := 1842) hx hb dL_law_1836 dL_law_1837 (by decide) (fun _ => ?_) (fun z => absurd (by rw [hval, ef1]) z)
    refine lv_goto (tgt := 2238) hx hb dL_law_1842 (by decide) ?_
    exact W.widen (by omega) (by omega) (kk _ _ _ _ hLI I hS (lv_sub hl [2, 3, 4, 5, 6] rfl))
set_option maxHeartbeats 4000000 in
set_option maxRecDepth 100000 in
theorem lc_owes {p : Program} {l : Launch} {e : Env} {s : State} {m : MethodId} {below : List Frame} {meth : Method} {c : Code} {b L : Nat} {xs : Nat → Int32} {Q : State → Prop} {D : va_G} {E : Nat → ClassId} {h : XW} {H : Heap} {locs : List Loc} {cells slots X r ou i : Nat} {ls : Array Slot} (F : LF p l s m c b L xs) (hI : LI E X r ou h) (I : XI s.heap.size D E h s H) (hS : va_S (xA s.heap.size) s.heap H locs) (hcs : cells + 9 ≤ 601024 ∧ slots + 65 ≤ 7293034) (hi : i + 6 ≤ L) (hL : L ≤ 3072) (hl : lv_has ls 8 [(0, .ref b), (1, .ref X), (2, .ref r), (3, .ref ou), (4, .int (nI i))])
    (kk : ∀ (h2 : XW) (H2 : Heap) (locs2 : List Loc) (ls2 : Array Slot), LI E X r ou h2 → XI s.heap.size D E h2 s H2 → va_S (xA s.heap.size) s.heap H2 locs2 → lv_has ls2 8 [(0, .ref b), (1, .ref X), (2, .ref r), (3, .ref ou), (4, .int (nI i))] → W p l e room_1 s m #[Value.ref b] below meth c H2 locs2 (cells + 9) (slots + 65) Q (F0 m 2238 ls2 [])) : W p l e room_1 s m #[Value.ref b] below meth c H locs cells slots Q (F0 m 1845 ls []) := by
  obtain ⟨hx, hb, hml, hown, hts, hX, hbl, hCa, hlst⟩ := F
  obtain ⟨σ, τ, th, ad, fa, ar, fo, hR, rfl, hM, hou, ho, hRel, hW⟩ := hI
  have hMW := hRel.MW hW
  have hbA : ¬ xA s.heap.size b := Nat.not_le.mpr hbl
  have v1 : vp_in (nI i + nI 1) L := by rw [nI_add]; exact vp_in_nI (by omega) (by omega)
  obtain ⟨a1, ea1⟩ : ∃ y : Int32, y = xs (nI i + nI 1).toNatClampNeg := ⟨_, rfl⟩
  have e1 : Value.int (xs (nI i + nI 1).toNatClampNeg) = .int a1 := by rw [ea1]
  have q := q_owes hRel hW th a1
  refine lv_aload_n hx hb dL_law_1845 rfl (lv_at hl 1 rfl) ?_
  refine lv_aload_n hx hb dL_law_1846 rfl (lv_at hl 0 rfl) ?_
  refine lv_iload hx hb dL_law_1847 (lv_at hl 4 rfl) ?_
  refine lv_iconst (v := nI 1) hx hb dL_law_1849 (by decide) ?_
  refine lv_iadd hx hb dL_law_1850 ?_
  refine va_sld hx hb hX hbl hbA hS v1 dL_law_1851 ?_
  refine xtop e1 ?_
  refine lv_aload_n hx hb dL_law_1852 rfl (lv_at hl 3 rfl) ?_
  refine xcsW (As := [.ref (ad 0 0), .int a1, .ref ou]) (rest := []) ⟨hx, hb, hml, hown, hts⟩ (mL_owes l s.heap.size D E h hlst (lPr r ou ar) τ ad fa hR hW ou fo (Or.inl rfl) ho a1 (hE1 q)) (vx_cwSW 3 hts gL_law_L_owes rfl rfl rfl (by decide +kernel) ⟨Nat.le_of_ble_eq_true rfl, Nat.le_of_ble_eq_true rfl⟩) I hCa hS rfl hl.1 rfl (Nat.le_of_ble_eq_true rfl) dL_law_1853 ⟨show cells + 1 ≤ 601024 by omega, show slots + 6 ≤ 7293034 by omega⟩ (fun v9 h1 H locs q9 I hS => ?_)
  obtain ⟨rfl, τ1, ad1, fa1, fo1, hRel1, hW1, hR1, h00, hpr, ho1, hans⟩ := l_post (by decide) hR rfl hW ho q q9
  obtain ⟨k1, ek1⟩ : ∃ y, y = (fX8_owes σ th a1).2.2 := ⟨_, rfl⟩
  refine W.eq (g2 := F0 m 1856 ls [.int (fX8_owes σ th a1).2.2]) rfl ?_
  refine xtop (show Value.int (fX8_owes σ th a1).2.2 = .int k1 by rw [ek1]) ?_
  refine lv_istore (lv' := [(5, .int k1), (0, .ref b), (1, .ref (ad 0 0)), (2, .ref r), (3, .ref ou), (4, .int (nI i))]) hx hb dL_law_1856 hl (by decide) rfl (fun ls hl => ?_)
  have hM1 : RM E σ th r (arN ar H.size) h1 := (hM.keep (hpr r (Or.inr (Or.inl rfl)) hou.1.symm) (fun k hk ha => hpr (ar k) (Or.inr (Or.inr ⟨k, hk, ha, rfl⟩)) (hou.2 k hk ha).symm)).re (fun b e he => I.lt b e he)
  have hB1 : ∀ b e, h1 b = some e → b < H.size := fun b e he => I.lt b e he
  refine lv_aload_n hx hb dL_law_1858 rfl (lv_at hl 3 rfl) ?_
  refine lv_aload_n hx hb dL_law_1859 rfl (lv_at hl 1 rfl) ?_
  refine lv_iload hx hb dL_law_1860 (lv_at hl 5 rfl) ?_
  refine lv_iconst (v := nI 1) hx hb dL_law_1862 (by decide) ?_
  refine lv_iadd hx hb dL_law_1863 ?_
  refine va_sld hx hb hX hbl hbA hS v1 dL_law_1864 ?_
  refine xtop e1 ?_
  refine xcvQ (As := [.int a1]) (rest := []) ⟨hx, hb, hml, hown, hts⟩ (mX8_owes l s.heap.size D E h1 σ th r (arN ar H.size) hM1 hMW a1) (cwV 1 hts gL_law_X8_owes rfl rfl rfl (by decide +kernel) ⟨Nat.le_of_ble_eq_true rfl, Nat.le_of_ble_eq_true rfl⟩) I hS hM1.1 rfl rfl hl.1 rfl (Nat.le_of_ble_eq_true rfl) dL_law_1865 ⟨show cells + 1 + 0 ≤ 601024 by omega, show slots + 6 + 0 ≤ 7293034 by omega⟩ (fun v9 h2 H2 locs q9 I hS => ?_)
  obtain ⟨rfl, hM2, hF2⟩ := q9
  obtain ⟨ho2, hLI⟩ := l_next hR1 h00 hM2 hB1 hF2 hou ho1 hRel1 hW1
  obtain ⟨f1, ef1⟩ : ∃ y, y = (fX8_owes σ th a1).1 := ⟨_, rfl⟩
  refine W.eq (g2 := F0 m 1868 ls [.long (fX8_owes σ th a1).1]) rfl ?_
  refine xtop (show Value.long (fX8_owes σ th a1).1 = .long f1 by rw [ef1]) ?_
  refine lv_lstore (lv' := [(6, .long f1), (5, .int k1), (0, .ref b), (1, .ref (ad 0 0)), (2, .ref r), (3, .ref ou), (4, .int (nI i))]) hx hb dL_law_1868 hl (by decide) rfl (fun ls hl => ?_)
  refine lv_aload_n hx hb dL_law_1870 rfl (lv_at hl 4 rfl) ?_
  refine xcvR (As := ([] : List Value)) (rest := []) ⟨hx, hb, hml, hown, hts⟩ (mX8_thrown l s.heap.size D E h2 _ _ r _ hM2 (hRel1.MW hW1)) (cwV 0 hts gL_law_X8_thrown rfl rfl rfl (by decide +kernel) ⟨Nat.le_of_ble_eq_true rfl, Nat.le_of_ble_eq_true rfl⟩) I hM2.1 rfl rfl hl.1 rfl (Nat.le_of_ble_eq_true rfl) dL_law_1871 ⟨show cells + 1 + 0 + 0 ≤ 601024 by omega, show slots + 6 + 0 + 0 ≤ 7293034 by omega⟩ ?_
  refine W.eq (g2 := F0 m 1874 ls [.int (fX8_owes σ th a1).2.2]) rfl ?_
  refine xtop (show Value.int (fX8_owes σ th a1).2.2 = .int k1 by rw [ek1]) ?_
  refine lv_iload hx hb dL_law_1874 (lv_at hl 1 rfl) ?_
  refine lv_icmp_eq (tgt := 1881) hx hb dL_law_1876 (by decide) (fun c1 => ?_) (fun c1 => absurd rfl c1)
  refine lv_iload hx hb dL_law_1881 (lv_at hl 1 rfl) ?_
  refine lv_if_ne (tgt := 1897) hx hb dL_law_1883 (by decide) (fun c2 => ?_) (fun c2 => ?_)
  · refine lv_goto (tgt := 2238) hx hb dL_law_1897 (by decide) ?_
    exact W.widen (by omega) (by omega) (kk _ _ _ _ hLI I hS (lv_sub hl [2, 3, 4, 5, 6] rfl))
  · have hk0 : (fX8_owes σ th a1).2.2 = nI 0 := by rw [← ek1]; exact c2
    have hval : fo1 0 = (fX8_owes σ th a1).1 := hans hk0 _ rfl
    refine lv_aload_n hx hb dL_law_1886 rfl (lv_at hl 5 rfl) ?_
    refine lv_iconst (v := nI 0) hx hb dL_law_1887 (by decide) ?_
    refine xlald (i := 0) (n := 1) hx hb I ho2 (by decide) (by decide) dL_law_1888 ?_
    refine lv_lload hx hb dL_law_1889 (lv_at hl 0 rfl) ?_
    refine xl_eq (tgt := 1897) hx hb dL_law_1891 dL_law_1892 (by decide) (fun _ => ?_) (fun z => absurd (by rw [hval, ef1]) z)
    refine lv_goto (tgt := 2238) hx hb dL_law_1897 (by decide) ?_
    exact W.widen (by omega) (by omega) (kk _ _ _ _ hLI I hS (lv_sub hl [2, 3, 4, 5, 6] rfl))
set_option maxHeartbeats 4000000 in
set_option maxRecDepth 100000 in
theorem lc_result {p : Program} {l : Launch} {e : Env} {s : State} {m : MethodId} {below : List Frame} {meth : Method} {c : Code} {b L : Nat} {xs : Nat → Int32} {Q : State → Prop} {D : va_G} {E : Nat → ClassId} {h : XW} {H : Heap} {locs : List Loc} {cells slots X r ou i : Nat} {ls : Array Slot} (F : LF p l s m c b L xs) (hI : LI E X r ou h) (I : XI s.heap.size D E h s H) (hS : va_S (xA s.heap.size) s.heap H locs) (hcs : cells + 9 ≤ 601024 ∧ slots + 65 ≤ 7293034) (hi : i + 6 ≤ L) (hL : L ≤ 3072) (hl : lv_has ls 8 [(0, .ref b), (1, .ref X), (2, .ref r), (3, .ref ou), (4, .int (nI i))])
    (kk : ∀ (h2 : XW) (H2 : Heap) (locs2 : List Loc) (ls2 : Array Slot), LI E X r ou h2 → XI s.heap.size D E h2 s H2 → va_S (xA s.heap.size) s.heap H2 locs2 → lv_has ls2 8 [(0, .ref b), (1, .ref X), (2, .ref r), (3, .ref ou), (4, .int (nI i))] → W p l e room_1 s m #[Value.ref b] below meth c H2 locs2 (cells + 9) (slots + 65) Q (F0 m 2238 ls2 [])) : W p l e room_1 s m #[Value.ref b] below meth c H locs cells slots Q (F0 m 1900 ls []) := by
  obtain ⟨hx, hb, hml, hown, hts, hX, hbl, hCa, hlst⟩ := F
  obtain ⟨σ, τ, th, ad, fa, ar, fo, hR, rfl, hM, hou, ho, hRel, hW⟩ := hI
  have hMW := hRel.MW hW
  have hbA : ¬ xA s.heap.size b := Nat.not_le.mpr hbl
  have v1 : vp_in (nI i + nI 1) L := by rw [nI_add]; exact vp_in_nI (by omega) (by omega)
  obtain ⟨a1, ea1⟩ : ∃ y : Int32, y = xs (nI i + nI 1).toNatClampNeg := ⟨_, rfl⟩
  have e1 : Value.int (xs (nI i + nI 1).toNatClampNeg) = .int a1 := by rw [ea1]
  have q := q_result hRel hW th a1
  refine lv_aload_n hx hb dL_law_1900 rfl (lv_at hl 1 rfl) ?_
  refine lv_aload_n hx hb dL_law_1901 rfl (lv_at hl 0 rfl) ?_
  refine lv_iload hx hb dL_law_1902 (lv_at hl 4 rfl) ?_
  refine lv_iconst (v := nI 1) hx hb dL_law_1904 (by decide) ?_
  refine lv_iadd hx hb dL_law_1905 ?_
  refine va_sld hx hb hX hbl hbA hS v1 dL_law_1906 ?_
  refine xtop e1 ?_
  refine lv_aload_n hx hb dL_law_1907 rfl (lv_at hl 3 rfl) ?_
  refine xcsW (As := [.ref (ad 0 0), .int a1, .ref ou]) (rest := []) ⟨hx, hb, hml, hown, hts⟩ (mL_result l s.heap.size D E h hlst (lPr r ou ar) τ ad fa hR hW ou fo (Or.inl rfl) ho a1 (hE1 q)) (vx_cwSW 3 hts gL_law_L_result rfl rfl rfl (by decide +kernel) ⟨Nat.le_of_ble_eq_true rfl, Nat.le_of_ble_eq_true rfl⟩) I hCa hS rfl hl.1 rfl (Nat.le_of_ble_eq_true rfl) dL_law_1908 ⟨show cells + 1 ≤ 601024 by omega, show slots + 6 ≤ 7293034 by omega⟩ (fun v9 h1 H locs q9 I hS => ?_)
  obtain ⟨rfl, τ1, ad1, fa1, fo1, hRel1, hW1, hR1, h00, hpr, ho1, hans⟩ := l_post (by decide) hR rfl hW ho q q9
  obtain ⟨k1, ek1⟩ : ∃ y, y = (fX8_result σ th a1).2.2 := ⟨_, rfl⟩
  refine W.eq (g2 := F0 m 1911 ls [.int (fX8_result σ th a1).2.2]) rfl ?_
  refine xtop (show Value.int (fX8_result σ th a1).2.2 = .int k1 by rw [ek1]) ?_
  refine lv_istore (lv' := [(5, .int k1), (0, .ref b), (1, .ref (ad 0 0)), (2, .ref r), (3, .ref ou), (4, .int (nI i))]) hx hb dL_law_1911 hl (by decide) rfl (fun ls hl => ?_)
  have hM1 : RM E σ th r (arN ar H.size) h1 := (hM.keep (hpr r (Or.inr (Or.inl rfl)) hou.1.symm) (fun k hk ha => hpr (ar k) (Or.inr (Or.inr ⟨k, hk, ha, rfl⟩)) (hou.2 k hk ha).symm)).re (fun b e he => I.lt b e he)
  have hB1 : ∀ b e, h1 b = some e → b < H.size := fun b e he => I.lt b e he
  refine lv_aload_n hx hb dL_law_1913 rfl (lv_at hl 3 rfl) ?_
  refine lv_aload_n hx hb dL_law_1914 rfl (lv_at hl 1 rfl) ?_
  refine lv_iload hx hb dL_law_1915 (lv_at hl 5 rfl) ?_
  refine lv_iconst (v := nI 1) hx hb dL_law_1917 (by decide) ?_
  refine lv_iadd hx hb dL_law_1918 ?_
  refine va_sld hx hb hX hbl hbA hS v1 dL_law_1919 ?_
  refine xtop e1 ?_
  refine xcvQ (As := [.int a1]) (rest := []) ⟨hx, hb, hml, hown, hts⟩ (mX8_result l s.heap.size D E h1 σ th r (arN ar H.size) hM1 hMW a1) (cwV 1 hts gL_law_X8_result rfl rfl rfl (by decide +kernel) ⟨Nat.le_of_ble_eq_true rfl, Nat.le_of_ble_eq_true rfl⟩) I hS hM1.1 rfl rfl hl.1 rfl (Nat.le_of_ble_eq_true rfl) dL_law_1920 ⟨show cells + 1 + 0 ≤ 601024 by omega, show slots + 6 + 0 ≤ 7293034 by omega⟩ (fun v9 h2 H2 locs q9 I hS => ?_)
  obtain ⟨rfl, hM2, hF2⟩ := q9
  obtain ⟨ho2, hLI⟩ := l_next hR1 h00 hM2 hB1 hF2 hou ho1 hRel1 hW1
  obtain ⟨f1, ef1⟩ : ∃ y, y = (fX8_result σ th a1).1 := ⟨_, rfl⟩
  refine W.eq (g2 := F0 m 1923 ls [.long (fX8_result σ th a1).1]) rfl ?_
  refine xtop (show Value.long (fX8_result σ th a1).1 = .long f1 by rw [ef1]) ?_
  refine lv_lstore (lv' := [(6, .long f1), (5, .int k1), (0, .ref b), (1, .ref (ad 0 0)), (2, .ref r), (3, .ref ou), (4, .int (nI i))]) hx hb dL_law_1923 hl (by decide) rfl (fun ls hl => ?_)
  refine lv_aload_n hx hb dL_law_1925 rfl (lv_at hl 4 rfl) ?_
  refine xcvR (As := ([] : List Value)) (rest := []) ⟨hx, hb, hml, hown, hts⟩ (mX8_thrown l s.heap.size D E h2 _ _ r _ hM2 (hRel1.MW hW1)) (cwV 0 hts gL_law_X8_thrown rfl rfl rfl (by decide +kernel) ⟨Nat.le_of_ble_eq_true rfl, Nat.le_of_ble_eq_true rfl⟩) I hM2.1 rfl rfl hl.1 rfl (Nat.le_of_ble_eq_true rfl) dL_law_1926 ⟨show cells + 1 + 0 + 0 ≤ 601024 by omega, show slots + 6 + 0 + 0 ≤ 7293034 by omega⟩ ?_
  refine W.eq (g2 := F0 m 1929 ls [.int (fX8_result σ th a1).2.2]) rfl ?_
  refine xtop (show Value.int (fX8_result σ th a1).2.2 = .int k1 by rw [ek1]) ?_
  refine lv_iload hx hb dL_law_1929 (lv_at hl 1 rfl) ?_
  refine lv_icmp_eq (tgt := 1936) hx hb dL_law_1931 (by decide) (fun c1 => ?_) (fun c1 => absurd rfl c1)
  refine lv_iload hx hb dL_law_1936 (lv_at hl 1 rfl) ?_
  refine lv_if_ne (tgt := 1952) hx hb dL_law_1938 (by decide) (fun c2 => ?_) (fun c2 => ?_)
  · refine lv_goto (tgt := 2238) hx hb dL_law_1952 (by decide) ?_
    exact W.widen (by omega) (by omega) (kk _ _ _ _ hLI I hS (lv_sub hl [2, 3, 4, 5, 6] rfl))
  · have hk0 : (fX8_result σ th a1).2.2 = nI 0 := by rw [← ek1]; exact c2
    have hval : fo1 0 = (fX8_result σ th a1).1 := hans hk0 _ rfl
    refine lv_aload_n hx hb dL_law_1941 rfl (lv_at hl 5 rfl) ?_
    refine lv_iconst (v := nI 0) hx hb dL_law_1942 (by decide) ?_
    refine xlald (i := 0) (n := 1) hx hb I ho2 (by decide) (by decide) dL_law_1943 ?_
    refine lv_lload hx hb dL_law_1944 (lv_at hl 0 rfl) ?_
    refine xl_eq (tgt := 1952) hx hb dL_law_1946 dL_law_1947 (by decide) (fun _ => ?_) (fun z => absurd (by rw [hval, ef1]) z)
    refine lv_goto (tgt := 2238) hx hb dL_law_1952 (by decide) ?_
    exact W.widen (by omega) (by omega) (kk _ _ _ _ hLI I hS (lv_sub hl [2, 3, 4, 5, 6] rfl))
set_option maxHeartbeats 4000000 in
set_option maxRecDepth 100000 in
theorem lc_isClosed {p : Program} {l : Launch} {e : Env} {s : State} {m : MethodId} {below : List Frame} {meth : Method} {c : Code} {b L : Nat} {xs : Nat → Int32} {Q : State → Prop} {D : va_G} {E : Nat → ClassId} {h : XW} {H : Heap} {locs : List Loc} {cells slots X r ou i : Nat} {ls : Array Slot} (F : LF p l s m c b L xs) (hI : LI E X r ou h) (I : XI s.heap.size D E h s H) (hS : va_S (xA s.heap.size) s.heap H locs) (hcs : cells + 9 ≤ 601024 ∧ slots + 65 ≤ 7293034) (hi : i + 6 ≤ L) (hL : L ≤ 3072) (hl : lv_has ls 8 [(0, .ref b), (1, .ref X), (2, .ref r), (3, .ref ou), (4, .int (nI i))])
    (kk : ∀ (h2 : XW) (H2 : Heap) (locs2 : List Loc) (ls2 : Array Slot), LI E X r ou h2 → XI s.heap.size D E h2 s H2 → va_S (xA s.heap.size) s.heap H2 locs2 → lv_has ls2 8 [(0, .ref b), (1, .ref X), (2, .ref r), (3, .ref ou), (4, .int (nI i))] → W p l e room_1 s m #[Value.ref b] below meth c H2 locs2 (cells + 9) (slots + 65) Q (F0 m 2238 ls2 [])) : W p l e room_1 s m #[Value.ref b] below meth c H locs cells slots Q (F0 m 1955 ls []) := by
  obtain ⟨hx, hb, hml, hown, hts, hX, hbl, hCa, hlst⟩ := F
  obtain ⟨σ, τ, th, ad, fa, ar, fo, hR, rfl, hM, hou, ho, hRel, hW⟩ := hI
  have hMW := hRel.MW hW
  have hbA : ¬ xA s.heap.size b := Nat.not_le.mpr hbl
  have v1 : vp_in (nI i + nI 1) L := by rw [nI_add]; exact vp_in_nI (by omega) (by omega)
  obtain ⟨a1, ea1⟩ : ∃ y : Int32, y = xs (nI i + nI 1).toNatClampNeg := ⟨_, rfl⟩
  have e1 : Value.int (xs (nI i + nI 1).toNatClampNeg) = .int a1 := by rw [ea1]
  have q := q_isClosed hRel hW th a1
  refine lv_aload_n hx hb dL_law_1955 rfl (lv_at hl 1 rfl) ?_
  refine lv_aload_n hx hb dL_law_1956 rfl (lv_at hl 0 rfl) ?_
  refine lv_iload hx hb dL_law_1957 (lv_at hl 4 rfl) ?_
  refine lv_iconst (v := nI 1) hx hb dL_law_1959 (by decide) ?_
  refine lv_iadd hx hb dL_law_1960 ?_
  refine va_sld hx hb hX hbl hbA hS v1 dL_law_1961 ?_
  refine xtop e1 ?_
  refine lv_aload_n hx hb dL_law_1962 rfl (lv_at hl 3 rfl) ?_
  refine xcsW (As := [.ref (ad 0 0), .int a1, .ref ou]) (rest := []) ⟨hx, hb, hml, hown, hts⟩ (mL_isClosed l s.heap.size D E h hlst (lPr r ou ar) τ ad fa hR hW ou fo (Or.inl rfl) ho a1 (hE1 q)) (vx_cwSW 3 hts gL_law_L_isClosed rfl rfl rfl (by decide +kernel) ⟨Nat.le_of_ble_eq_true rfl, Nat.le_of_ble_eq_true rfl⟩) I hCa hS rfl hl.1 rfl (Nat.le_of_ble_eq_true rfl) dL_law_1963 ⟨show cells + 1 ≤ 601024 by omega, show slots + 6 ≤ 7293034 by omega⟩ (fun v9 h1 H locs q9 I hS => ?_)
  obtain ⟨rfl, τ1, ad1, fa1, fo1, hRel1, hW1, hR1, h00, hpr, ho1, hans⟩ := l_post (by decide) hR rfl hW ho q q9
  obtain ⟨k1, ek1⟩ : ∃ y, y = (fX8_isClosed σ th a1).2.2 := ⟨_, rfl⟩
  refine W.eq (g2 := F0 m 1966 ls [.int (fX8_isClosed σ th a1).2.2]) rfl ?_
  refine xtop (show Value.int (fX8_isClosed σ th a1).2.2 = .int k1 by rw [ek1]) ?_
  refine lv_istore (lv' := [(5, .int k1), (0, .ref b), (1, .ref (ad 0 0)), (2, .ref r), (3, .ref ou), (4, .int (nI i))]) hx hb dL_law_1966 hl (by decide) rfl (fun ls hl => ?_)
  have hM1 : RM E σ th r (arN ar H.size) h1 := (hM.keep (hpr r (Or.inr (Or.inl rfl)) hou.1.symm) (fun k hk ha => hpr (ar k) (Or.inr (Or.inr ⟨k, hk, ha, rfl⟩)) (hou.2 k hk ha).symm)).re (fun b e he => I.lt b e he)
  have hB1 : ∀ b e, h1 b = some e → b < H.size := fun b e he => I.lt b e he
  refine lv_aload_n hx hb dL_law_1968 rfl (lv_at hl 3 rfl) ?_
  refine lv_aload_n hx hb dL_law_1969 rfl (lv_at hl 1 rfl) ?_
  refine lv_iload hx hb dL_law_1970 (lv_at hl 5 rfl) ?_
  refine lv_iconst (v := nI 1) hx hb dL_law_1972 (by decide) ?_
  refine lv_iadd hx hb dL_law_1973 ?_
  refine va_sld hx hb hX hbl hbA hS v1 dL_law_1974 ?_
  refine xtop e1 ?_
  refine xcvQ (As := [.int a1]) (rest := []) ⟨hx, hb, hml, hown, hts⟩ (mX8_isClosed l s.heap.size D E h1 σ th r (arN ar H.size) hM1 hMW a1) (cwV 1 hts gL_law_X8_isClosed rfl rfl rfl (by decide +kernel) ⟨Nat.le_of_ble_eq_true rfl, Nat.le_of_ble_eq_true rfl⟩) I hS hM1.1 rfl rfl hl.1 rfl (Nat.le_of_ble_eq_true rfl) dL_law_1975 ⟨show cells + 1 + 0 ≤ 601024 by omega, show slots + 6 + 0 ≤ 7293034 by omega⟩ (fun v9 h2 H2 locs q9 I hS => ?_)
  obtain ⟨rfl, hM2, hF2⟩ := q9
  obtain ⟨ho2, hLI⟩ := l_next hR1 h00 hM2 hB1 hF2 hou ho1 hRel1 hW1
  obtain ⟨f1, ef1⟩ : ∃ y, y = (fX8_isClosed σ th a1).1 := ⟨_, rfl⟩
  refine W.eq (g2 := F0 m 1978 ls [.int (fX8_isClosed σ th a1).1]) rfl ?_
  refine xtop (show Value.int (fX8_isClosed σ th a1).1 = .int f1 by rw [ef1]) ?_
  refine lv_istore (lv' := [(6, .int f1), (5, .int k1), (0, .ref b), (1, .ref (ad 0 0)), (2, .ref r), (3, .ref ou), (4, .int (nI i))]) hx hb dL_law_1978 hl (by decide) rfl (fun ls hl => ?_)
  refine lv_aload_n hx hb dL_law_1980 rfl (lv_at hl 4 rfl) ?_
  refine xcvR (As := ([] : List Value)) (rest := []) ⟨hx, hb, hml, hown, hts⟩ (mX8_thrown l s.heap.size D E h2 _ _ r _ hM2 (hRel1.MW hW1)) (cwV 0 hts gL_law_X8_thrown rfl rfl rfl (by decide +kernel) ⟨Nat.le_of_ble_eq_true rfl, Nat.le_of_ble_eq_true rfl⟩) I hM2.1 rfl rfl hl.1 rfl (Nat.le_of_ble_eq_true rfl) dL_law_1981 ⟨show cells + 1 + 0 + 0 ≤ 601024 by omega, show slots + 6 + 0 + 0 ≤ 7293034 by omega⟩ ?_
  refine W.eq (g2 := F0 m 1984 ls [.int (fX8_isClosed σ th a1).2.2]) rfl ?_
  refine xtop (show Value.int (fX8_isClosed σ th a1).2.2 = .int k1 by rw [ek1]) ?_
  refine lv_iload hx hb dL_law_1984 (lv_at hl 1 rfl) ?_
  refine lv_icmp_eq (tgt := 1991) hx hb dL_law_1986 (by decide) (fun c1 => ?_) (fun c1 => absurd rfl c1)
  refine lv_iload hx hb dL_law_1991 (lv_at hl 1 rfl) ?_
  refine lv_if_ne (tgt := 2015) hx hb dL_law_1993 (by decide) (fun c2 => ?_) (fun c2 => ?_)
  · refine lv_goto (tgt := 2238) hx hb dL_law_2015 (by decide) ?_
    exact W.widen (by omega) (by omega) (kk _ _ _ _ hLI I hS (lv_sub hl [2, 3, 4, 5, 6] rfl))
  · have hk0 : (fX8_isClosed σ th a1).2.2 = nI 0 := by rw [← ek1]; exact c2
    have hval : fo1 0 = (if (fX8_isClosed σ th a1).1 = 0 then 0 else 1) := hans hk0 _ rfl
    refine lv_aload_n hx hb dL_law_1996 rfl (lv_at hl 5 rfl) ?_
    refine lv_iconst (v := nI 0) hx hb dL_law_1997 (by decide) ?_
    refine xlald (i := 0) (n := 1) hx hb I ho2 (by decide) (by decide) dL_law_1998 ?_
    refine lv_iload hx hb dL_law_1999 (lv_at hl 0 rfl) ?_
    refine lv_if_eq (tgt := 2008) hx hb dL_law_2001 (by decide) (fun c3 => ?_) (fun c3 => ?_)
    · refine lv_lconst (v := 0) hx hb dL_law_2008 (by decide) ?_
      refine xl_eq (tgt := 2015) hx hb dL_law_2009 dL_law_2010 (by decide) (fun _ => ?_) (fun z => absurd (by rw [hval, if_pos (show (fX8_isClosed σ th a1).1 = 0 by rw [← ef1]; exact c3)]) z)
      refine lv_goto (tgt := 2238) hx hb dL_law_2015 (by decide) ?_
      exact W.widen (by omega) (by omega) (kk _ _ _ _ hLI I hS (lv_sub hl [2, 3, 4, 5, 6] rfl))
    · refine lv_lconst (v := 1) hx hb dL_law_2004 (by decide) ?_
      refine lv_goto (tgt := 2009) hx hb dL_law_2005 (by decide) ?_
      refine xl_eq (tgt := 2015) hx hb dL_law_2009 dL_law_2010 (by decide) (fun _ => ?_) (fun z => absurd (by rw [hval, if_neg (show ¬ (fX8_isClosed σ th a1).1 = 0 by rw [← ef1]; exact c3)]) z)
      refine lv_goto (tgt := 2238) hx hb dL_law_2015 (by decide) ?_
      exact W.widen (by omega) (by omega) (kk _ _ _ _ hLI I hS (lv_sub hl [2, 3, 4, 5, 6] rfl))
set_option maxHeartbeats 4000000 in
set_option maxRecDepth 100000 in
theorem lc_reserve {p : Program} {l : Launch} {e : Env} {s : State} {m : MethodId} {below : List Frame} {meth : Method} {c : Code} {b L : Nat} {xs : Nat → Int32} {Q : State → Prop} {D : va_G} {E : Nat → ClassId} {h : XW} {H : Heap} {locs : List Loc} {cells slots X r ou i : Nat} {ls : Array Slot} (F : LF p l s m c b L xs) (hI : LI E X r ou h) (I : XI s.heap.size D E h s H) (hS : va_S (xA s.heap.size) s.heap H locs) (hcs : cells + 9 ≤ 601024 ∧ slots + 65 ≤ 7293034) (hi : i + 6 ≤ L) (hL : L ≤ 3072) (hl : lv_has ls 8 [(0, .ref b), (1, .ref X), (2, .ref r), (3, .ref ou), (4, .int (nI i))])
    (kk : ∀ (h2 : XW) (H2 : Heap) (locs2 : List Loc) (ls2 : Array Slot), LI E X r ou h2 → XI s.heap.size D E h2 s H2 → va_S (xA s.heap.size) s.heap H2 locs2 → lv_has ls2 8 [(0, .ref b), (1, .ref X), (2, .ref r), (3, .ref ou), (4, .int (nI i))] → W p l e room_1 s m #[Value.ref b] below meth c H2 locs2 (cells + 9) (slots + 65) Q (F0 m 2238 ls2 [])) : W p l e room_1 s m #[Value.ref b] below meth c H locs cells slots Q (F0 m 2018 ls []) := by
  obtain ⟨hx, hb, hml, hown, hts, hX, hbl, hCa, hlst⟩ := F
  obtain ⟨σ, τ, th, ad, fa, ar, fo, hR, rfl, hM, hou, ho, hRel, hW⟩ := hI
  have hMW := hRel.MW hW
  have hbA : ¬ xA s.heap.size b := Nat.not_le.mpr hbl
  refine lv_aload_n hx hb dL_law_2018 rfl (lv_at hl 1 rfl) ?_
  refine xcvR (As := ([] : List Value)) (rest := []) ⟨hx, hb, hml, hown, hts⟩ (mX7_reserve l s.heap.size D E h (lPr r ou ar) τ ad fa hR hW) (cwV 0 hts gL_law_X7_reserve rfl rfl rfl (by decide +kernel) ⟨Nat.le_of_ble_eq_true rfl, Nat.le_of_ble_eq_true rfl⟩) I hR.f0 rfl rfl hl.1 rfl (Nat.le_of_ble_eq_true rfl) dL_law_2019 ⟨show cells + 0 ≤ 601024 by omega, show slots + 0 ≤ 7293034 by omega⟩ ?_
  refine W.eq (g2 := F0 m 2022 ls [.long (fX7_reserve τ)]) rfl ?_
  have hM1 : RM E σ th r (arN ar H.size) h := hM.re (fun b e he => I.lt b e he)
  have hB1 : ∀ b e, h b = some e → b < H.size := fun b e he => I.lt b e he
  refine lv_aload_n hx hb dL_law_2022 rfl (lv_at hl 2 rfl) ?_
  refine xcvQ (As := ([] : List Value)) (rest := [.long (fX7_reserve τ)]) ⟨hx, hb, hml, hown, hts⟩ (mX8_reserve l s.heap.size D E h σ th r (arN ar H.size) hM1 hMW) (cwV 0 hts gL_law_X8_reserve rfl rfl rfl (by decide +kernel) ⟨Nat.le_of_ble_eq_true rfl, Nat.le_of_ble_eq_true rfl⟩) I hS hM1.1 rfl rfl hl.1 rfl (Nat.le_of_ble_eq_true rfl) dL_law_2023 ⟨show cells + 0 + 0 ≤ 601024 by omega, show slots + 0 + 0 ≤ 7293034 by omega⟩ (fun v9 h2 H2 locs q9 I hS => ?_)
  obtain ⟨rfl, hM2, hF2⟩ := q9
  obtain ⟨ho2, hLI⟩ := l_next hR rfl hM2 hB1 hF2 hou ho hRel hW
  refine W.eq (g2 := F0 m 2026 ls [.long (fX8_reserve σ th).1, .long (fX7_reserve τ)]) rfl ?_
  have hval : fX7_reserve τ = (fX8_reserve σ th).1 := by show cL τ 0 0 = mL σ 35 0; rw [hRel.1.2.2.2.2.2.2.1]
  refine xl_eq (tgt := 2238) hx hb dL_law_2026 dL_law_2027 (by decide) (fun _ => ?_) (fun z => absurd hval z)
  exact W.widen (by omega) (by omega) (kk _ _ _ _ hLI I hS (lv_sub hl [0, 1, 2, 3, 4] rfl))
set_option maxHeartbeats 4000000 in
set_option maxRecDepth 100000 in
theorem lc_letter {p : Program} {l : Launch} {e : Env} {s : State} {m : MethodId} {below : List Frame} {meth : Method} {c : Code} {b L : Nat} {xs : Nat → Int32} {Q : State → Prop} {D : va_G} {E : Nat → ClassId} {h : XW} {H : Heap} {locs : List Loc} {cells slots X r ou i : Nat} {ls : Array Slot} (F : LF p l s m c b L xs) (hI : LI E X r ou h) (I : XI s.heap.size D E h s H) (hS : va_S (xA s.heap.size) s.heap H locs) (hcs : cells + 9 ≤ 601024 ∧ slots + 65 ≤ 7293034) (hi : i + 6 ≤ L) (hL : L ≤ 3072) (hl : lv_has ls 8 [(0, .ref b), (1, .ref X), (2, .ref r), (3, .ref ou), (4, .int (nI i))])
    (kk : ∀ (h2 : XW) (H2 : Heap) (locs2 : List Loc) (ls2 : Array Slot), LI E X r ou h2 → XI s.heap.size D E h2 s H2 → va_S (xA s.heap.size) s.heap H2 locs2 → lv_has ls2 8 [(0, .ref b), (1, .ref X), (2, .ref r), (3, .ref ou), (4, .int (nI i))] → W p l e room_1 s m #[Value.ref b] below meth c H2 locs2 (cells + 9) (slots + 65) Q (F0 m 2238 ls2 [])) : W p l e room_1 s m #[Value.ref b] below meth c H locs cells slots Q (F0 m 2032 ls []) := by
  obtain ⟨hx, hb, hml, hown, hts, hX, hbl, hCa, hlst⟩ := F
  obtain ⟨σ, τ, th, ad, fa, ar, fo, hR, rfl, hM, hou, ho, hRel, hW⟩ := hI
  have hMW := hRel.MW hW
  have hbA : ¬ xA s.heap.size b := Nat.not_le.mpr hbl
  have v1 : vp_in (nI i + nI 1) L := by rw [nI_add]; exact vp_in_nI (by omega) (by omega)
  obtain ⟨a1, ea1⟩ : ∃ y : Int32, y = xs (nI i + nI 1).toNatClampNeg := ⟨_, rfl⟩
  have e1 : Value.int (xs (nI i + nI 1).toNatClampNeg) = .int a1 := by rw [ea1]
  have v2 : vp_in (nI i + nI 2) L := by rw [nI_add]; exact vp_in_nI (by omega) (by omega)
  obtain ⟨a2, ea2⟩ : ∃ y : Int32, y = xs (nI i + nI 2).toNatClampNeg := ⟨_, rfl⟩
  have e2 : Value.int (xs (nI i + nI 2).toNatClampNeg) = .int a2 := by rw [ea2]
  have q := q_letter hRel hW th a1 a2
  refine lv_aload_n hx hb dL_law_2032 rfl (lv_at hl 1 rfl) ?_
  refine lv_aload_n hx hb dL_law_2033 rfl (lv_at hl 0 rfl) ?_
  refine lv_iload hx hb dL_law_2034 (lv_at hl 4 rfl) ?_
  refine lv_iconst (v := nI 1) hx hb dL_law_2036 (by decide) ?_
  refine lv_iadd hx hb dL_law_2037 ?_
  refine va_sld hx hb hX hbl hbA hS v1 dL_law_2038 ?_
  refine xtop e1 ?_
  refine lv_aload_n hx hb dL_law_2039 rfl (lv_at hl 0 rfl) ?_
  refine lv_iload hx hb dL_law_2040 (lv_at hl 4 rfl) ?_
  refine lv_iconst (v := nI 2) hx hb dL_law_2042 (by decide) ?_
  refine lv_iadd hx hb dL_law_2043 ?_
  refine va_sld hx hb hX hbl hbA hS v2 dL_law_2044 ?_
  refine xtop e2 ?_
  refine lv_aload_n hx hb dL_law_2045 rfl (lv_at hl 3 rfl) ?_
  refine xcsW (As := [.ref (ad 0 0), .int a1, .int a2, .ref ou]) (rest := []) ⟨hx, hb, hml, hown, hts⟩ (mL_letter l s.heap.size D E h hlst (lPr r ou ar) τ ad fa hR hW ou fo (Or.inl rfl) ho a1 a2 (hE3 q)) (vx_cwSW 4 hts gL_law_L_letter rfl rfl rfl (by decide +kernel) ⟨Nat.le_of_ble_eq_true rfl, Nat.le_of_ble_eq_true rfl⟩) I hCa hS rfl hl.1 rfl (Nat.le_of_ble_eq_true rfl) dL_law_2046 ⟨show cells + 4 ≤ 601024 by omega, show slots + 24 ≤ 7293034 by omega⟩ (fun v9 h1 H locs q9 I hS => ?_)
  obtain ⟨rfl, τ1, ad1, fa1, fo1, hRel1, hW1, hR1, h00, hpr, ho1, hans⟩ := l_post (by decide) hR rfl hW ho q q9
  obtain ⟨k1, ek1⟩ : ∃ y, y = (fX8_letter σ th a1 a2).2.2 := ⟨_, rfl⟩
  refine W.eq (g2 := F0 m 2049 ls [.int (fX8_letter σ th a1 a2).2.2]) rfl ?_
  refine xtop (show Value.int (fX8_letter σ th a1 a2).2.2 = .int k1 by rw [ek1]) ?_
  refine lv_istore (lv' := [(5, .int k1), (0, .ref b), (1, .ref (ad 0 0)), (2, .ref r), (3, .ref ou), (4, .int (nI i))]) hx hb dL_law_2049 hl (by decide) rfl (fun ls hl => ?_)
  have hM1 : RM E σ th r (arN ar H.size) h1 := (hM.keep (hpr r (Or.inr (Or.inl rfl)) hou.1.symm) (fun k hk ha => hpr (ar k) (Or.inr (Or.inr ⟨k, hk, ha, rfl⟩)) (hou.2 k hk ha).symm)).re (fun b e he => I.lt b e he)
  have hB1 : ∀ b e, h1 b = some e → b < H.size := fun b e he => I.lt b e he
  refine lv_aload_n hx hb dL_law_2051 rfl (lv_at hl 3 rfl) ?_
  refine lv_aload_n hx hb dL_law_2052 rfl (lv_at hl 1 rfl) ?_
  refine lv_iload hx hb dL_law_2053 (lv_at hl 5 rfl) ?_
  refine lv_iconst (v := nI 1) hx hb dL_law_2055 (by decide) ?_
  refine lv_iadd hx hb dL_law_2056 ?_
  refine va_sld hx hb hX hbl hbA hS v1 dL_law_2057 ?_
  refine xtop e1 ?_
  refine lv_aload_n hx hb dL_law_2058 rfl (lv_at hl 1 rfl) ?_
  refine lv_iload hx hb dL_law_2059 (lv_at hl 5 rfl) ?_
  refine lv_iconst (v := nI 2) hx hb dL_law_2061 (by decide) ?_
  refine lv_iadd hx hb dL_law_2062 ?_
  refine va_sld hx hb hX hbl hbA hS v2 dL_law_2063 ?_
  refine xtop e2 ?_
  refine xcvQ (As := [.int a1, .int a2]) (rest := []) ⟨hx, hb, hml, hown, hts⟩ (mX8_letter l s.heap.size D E h1 σ th r (arN ar H.size) hM1 hMW a1 a2) (cwV 2 hts gL_law_X8_letter rfl rfl rfl (by decide +kernel) ⟨Nat.le_of_ble_eq_true rfl, Nat.le_of_ble_eq_true rfl⟩) I hS hM1.1 rfl rfl hl.1 rfl (Nat.le_of_ble_eq_true rfl) dL_law_2064 ⟨show cells + 4 + 0 ≤ 601024 by omega, show slots + 24 + 0 ≤ 7293034 by omega⟩ (fun v9 h2 H2 locs q9 I hS => ?_)
  obtain ⟨rfl, hM2, hF2⟩ := q9
  obtain ⟨ho2, hLI⟩ := l_next hR1 h00 hM2 hB1 hF2 hou ho1 hRel1 hW1
  obtain ⟨f1, ef1⟩ : ∃ y, y = (fX8_letter σ th a1 a2).1 := ⟨_, rfl⟩
  refine W.eq (g2 := F0 m 2067 ls [.int (fX8_letter σ th a1 a2).1]) rfl ?_
  refine xtop (show Value.int (fX8_letter σ th a1 a2).1 = .int f1 by rw [ef1]) ?_
  refine lv_istore (lv' := [(6, .int f1), (5, .int k1), (0, .ref b), (1, .ref (ad 0 0)), (2, .ref r), (3, .ref ou), (4, .int (nI i))]) hx hb dL_law_2067 hl (by decide) rfl (fun ls hl => ?_)
  refine lv_aload_n hx hb dL_law_2069 rfl (lv_at hl 4 rfl) ?_
  refine xcvR (As := ([] : List Value)) (rest := []) ⟨hx, hb, hml, hown, hts⟩ (mX8_thrown l s.heap.size D E h2 _ _ r _ hM2 (hRel1.MW hW1)) (cwV 0 hts gL_law_X8_thrown rfl rfl rfl (by decide +kernel) ⟨Nat.le_of_ble_eq_true rfl, Nat.le_of_ble_eq_true rfl⟩) I hM2.1 rfl rfl hl.1 rfl (Nat.le_of_ble_eq_true rfl) dL_law_2070 ⟨show cells + 4 + 0 + 0 ≤ 601024 by omega, show slots + 24 + 0 + 0 ≤ 7293034 by omega⟩ ?_
  refine W.eq (g2 := F0 m 2073 ls [.int (fX8_letter σ th a1 a2).2.2]) rfl ?_
  refine xtop (show Value.int (fX8_letter σ th a1 a2).2.2 = .int k1 by rw [ek1]) ?_
  refine lv_iload hx hb dL_law_2073 (lv_at hl 1 rfl) ?_
  refine lv_icmp_eq (tgt := 2080) hx hb dL_law_2075 (by decide) (fun c1 => ?_) (fun c1 => absurd rfl c1)
  refine lv_iload hx hb dL_law_2080 (lv_at hl 1 rfl) ?_
  refine lv_if_ne (tgt := 2097) hx hb dL_law_2082 (by decide) (fun c2 => ?_) (fun c2 => ?_)
  · refine lv_goto (tgt := 2238) hx hb dL_law_2097 (by decide) ?_
    exact W.widen (by omega) (by omega) (kk _ _ _ _ hLI I hS (lv_sub hl [2, 3, 4, 5, 6] rfl))
  · have hk0 : (fX8_letter σ th a1 a2).2.2 = nI 0 := by rw [← ek1]; exact c2
    have hval : fo1 0 = (fX8_letter σ th a1 a2).1.toInt64 := hans hk0 _ rfl
    refine lv_aload_n hx hb dL_law_2085 rfl (lv_at hl 5 rfl) ?_
    refine lv_iconst (v := nI 0) hx hb dL_law_2086 (by decide) ?_
    refine xlald (i := 0) (n := 1) hx hb I ho2 (by decide) (by decide) dL_law_2087 ?_
    refine lv_iload hx hb dL_law_2088 (lv_at hl 0 rfl) ?_
    refine lv_i2l (v := f1.toInt64) hx hb dL_law_2090 rfl ?_
    refine xl_eq (tgt := 2097) hx hb dL_law_2091 dL_law_2092 (by decide) (fun _ => ?_) (fun z => absurd (by rw [hval, ef1]) z)
    refine lv_goto (tgt := 2238) hx hb dL_law_2097 (by decide) ?_
    exact W.widen (by omega) (by omega) (kk _ _ _ _ hLI I hS (lv_sub hl [2, 3, 4, 5, 6] rfl))
set_option maxHeartbeats 4000000 in
set_option maxRecDepth 100000 in
theorem lc_arrest {p : Program} {l : Launch} {e : Env} {s : State} {m : MethodId} {below : List Frame} {meth : Method} {c : Code} {b L : Nat} {xs : Nat → Int32} {Q : State → Prop} {D : va_G} {E : Nat → ClassId} {h : XW} {H : Heap} {locs : List Loc} {cells slots X r ou i : Nat} {ls : Array Slot} (F : LF p l s m c b L xs) (hI : LI E X r ou h) (I : XI s.heap.size D E h s H) (hS : va_S (xA s.heap.size) s.heap H locs) (hcs : cells + 9 ≤ 601024 ∧ slots + 65 ≤ 7293034) (hi : i + 6 ≤ L) (hL : L ≤ 3072) (hl : lv_has ls 8 [(0, .ref b), (1, .ref X), (2, .ref r), (3, .ref ou), (4, .int (nI i))])
    (kk : ∀ (h2 : XW) (H2 : Heap) (locs2 : List Loc) (ls2 : Array Slot), LI E X r ou h2 → XI s.heap.size D E h2 s H2 → va_S (xA s.heap.size) s.heap H2 locs2 → lv_has ls2 8 [(0, .ref b), (1, .ref X), (2, .ref r), (3, .ref ou), (4, .int (nI i))] → W p l e room_1 s m #[Value.ref b] below meth c H2 locs2 (cells + 9) (slots + 65) Q (F0 m 2238 ls2 [])) : W p l e room_1 s m #[Value.ref b] below meth c H locs cells slots Q (F0 m 2100 ls []) := by
  obtain ⟨hx, hb, hml, hown, hts, hX, hbl, hCa, hlst⟩ := F
  obtain ⟨σ, τ, th, ad, fa, ar, fo, hR, rfl, hM, hou, ho, hRel, hW⟩ := hI
  have hMW := hRel.MW hW
  have hbA : ¬ xA s.heap.size b := Nat.not_le.mpr hbl
  have v1 : vp_in (nI i + nI 1) L := by rw [nI_add]; exact vp_in_nI (by omega) (by omega)
  obtain ⟨a1, ea1⟩ : ∃ y : Int32, y = xs (nI i + nI 1).toNatClampNeg := ⟨_, rfl⟩
  have e1 : Value.int (xs (nI i + nI 1).toNatClampNeg) = .int a1 := by rw [ea1]
  have v2 : vp_in (nI i + nI 2) L := by rw [nI_add]; exact vp_in_nI (by omega) (by omega)
  obtain ⟨a2, ea2⟩ : ∃ y : Int32, y = xs (nI i + nI 2).toNatClampNeg := ⟨_, rfl⟩
  have e2 : Value.int (xs (nI i + nI 2).toNatClampNeg) = .int a2 := by rw [ea2]
  have q := q_arrest hRel hW th a1 a2
  refine lv_aload_n hx hb dL_law_2100 rfl (lv_at hl 1 rfl) ?_
  refine lv_aload_n hx hb dL_law_2101 rfl (lv_at hl 0 rfl) ?_
  refine lv_iload hx hb dL_law_2102 (lv_at hl 4 rfl) ?_
  refine lv_iconst (v := nI 1) hx hb dL_law_2104 (by decide) ?_
  refine lv_iadd hx hb dL_law_2105 ?_
  refine va_sld hx hb hX hbl hbA hS v1 dL_law_2106 ?_
  refine xtop e1 ?_
  refine lv_aload_n hx hb dL_law_2107 rfl (lv_at hl 0 rfl) ?_
  refine lv_iload hx hb dL_law_2108 (lv_at hl 4 rfl) ?_
  refine lv_iconst (v := nI 2) hx hb dL_law_2110 (by decide) ?_
  refine lv_iadd hx hb dL_law_2111 ?_
  refine va_sld hx hb hX hbl hbA hS v2 dL_law_2112 ?_
  refine xtop e2 ?_
  refine lv_aload_n hx hb dL_law_2113 rfl (lv_at hl 3 rfl) ?_
  refine xcsW (As := [.ref (ad 0 0), .int a1, .int a2, .ref ou]) (rest := []) ⟨hx, hb, hml, hown, hts⟩ (mL_arrest l s.heap.size D E h hlst (lPr r ou ar) τ ad fa hR hW ou fo (Or.inl rfl) ho a1 a2 (hE2 q)) (vx_cwSW 4 hts gL_law_L_arrest rfl rfl rfl (by decide +kernel) ⟨Nat.le_of_ble_eq_true rfl, Nat.le_of_ble_eq_true rfl⟩) I hCa hS rfl hl.1 rfl (Nat.le_of_ble_eq_true rfl) dL_law_2114 ⟨show cells + 3 ≤ 601024 by omega, show slots + 18 ≤ 7293034 by omega⟩ (fun v9 h1 H locs q9 I hS => ?_)
  obtain ⟨rfl, τ1, ad1, fa1, fo1, hRel1, hW1, hR1, h00, hpr, ho1, hans⟩ := l_post (by decide) hR rfl hW ho q q9
  obtain ⟨k1, ek1⟩ : ∃ y, y = (fX8_arrest σ th a1 a2).2.2 := ⟨_, rfl⟩
  refine W.eq (g2 := F0 m 2117 ls [.int (fX8_arrest σ th a1 a2).2.2]) rfl ?_
  refine xtop (show Value.int (fX8_arrest σ th a1 a2).2.2 = .int k1 by rw [ek1]) ?_
  refine lv_istore (lv' := [(5, .int k1), (0, .ref b), (1, .ref (ad 0 0)), (2, .ref r), (3, .ref ou), (4, .int (nI i))]) hx hb dL_law_2117 hl (by decide) rfl (fun ls hl => ?_)
  have hM1 : RM E σ th r (arN ar H.size) h1 := (hM.keep (hpr r (Or.inr (Or.inl rfl)) hou.1.symm) (fun k hk ha => hpr (ar k) (Or.inr (Or.inr ⟨k, hk, ha, rfl⟩)) (hou.2 k hk ha).symm)).re (fun b e he => I.lt b e he)
  have hB1 : ∀ b e, h1 b = some e → b < H.size := fun b e he => I.lt b e he
  refine lv_aload_n hx hb dL_law_2119 rfl (lv_at hl 3 rfl) ?_
  refine lv_aload_n hx hb dL_law_2120 rfl (lv_at hl 1 rfl) ?_
  refine lv_iload hx hb dL_law_2121 (lv_at hl 5 rfl) ?_
  refine lv_iconst (v := nI 1) hx hb dL_law_2123 (by decide) ?_
  refine lv_iadd hx hb dL_law_2124 ?_
  refine va_sld hx hb hX hbl hbA hS v1 dL_law_2125 ?_
  refine xtop e1 ?_
  refine lv_aload_n hx hb dL_law_2126 rfl (lv_at hl 1 rfl) ?_
  refine lv_iload hx hb dL_law_2127 (lv_at hl 5 rfl) ?_
  refine lv_iconst (v := nI 2) hx hb dL_law_2129 (by decide) ?_
  refine lv_iadd hx hb dL_law_2130 ?_
  refine va_sld hx hb hX hbl hbA hS v2 dL_law_2131 ?_
  refine xtop e2 ?_
  refine xcvQ (As := [.int a1, .int a2]) (rest := []) ⟨hx, hb, hml, hown, hts⟩ (mX8_arrest l s.heap.size D E h1 σ th r (arN ar H.size) hM1 hMW a1 a2) (cwV 2 hts gL_law_X8_arrest rfl rfl rfl (by decide +kernel) ⟨Nat.le_of_ble_eq_true rfl, Nat.le_of_ble_eq_true rfl⟩) I hS hM1.1 rfl rfl hl.1 rfl (Nat.le_of_ble_eq_true rfl) dL_law_2132 ⟨show cells + 3 + 0 ≤ 601024 by omega, show slots + 18 + 0 ≤ 7293034 by omega⟩ (fun v9 h2 H2 locs q9 I hS => ?_)
  obtain ⟨rfl, hM2, hF2⟩ := q9
  obtain ⟨ho2, hLI⟩ := l_next hR1 h00 hM2 hB1 hF2 hou ho1 hRel1 hW1
  obtain ⟨f1, ef1⟩ : ∃ y, y = (fX8_arrest σ th a1 a2).1 := ⟨_, rfl⟩
  refine W.eq (g2 := F0 m 2135 ls [.int (fX8_arrest σ th a1 a2).1]) rfl ?_
  refine xtop (show Value.int (fX8_arrest σ th a1 a2).1 = .int f1 by rw [ef1]) ?_
  refine lv_istore (lv' := [(6, .int f1), (5, .int k1), (0, .ref b), (1, .ref (ad 0 0)), (2, .ref r), (3, .ref ou), (4, .int (nI i))]) hx hb dL_law_2135 hl (by decide) rfl (fun ls hl => ?_)
  refine lv_aload_n hx hb dL_law_2137 rfl (lv_at hl 4 rfl) ?_
  refine xcvR (As := ([] : List Value)) (rest := []) ⟨hx, hb, hml, hown, hts⟩ (mX8_thrown l s.heap.size D E h2 _ _ r _ hM2 (hRel1.MW hW1)) (cwV 0 hts gL_law_X8_thrown rfl rfl rfl (by decide +kernel) ⟨Nat.le_of_ble_eq_true rfl, Nat.le_of_ble_eq_true rfl⟩) I hM2.1 rfl rfl hl.1 rfl (Nat.le_of_ble_eq_true rfl) dL_law_2138 ⟨show cells + 3 + 0 + 0 ≤ 601024 by omega, show slots + 18 + 0 + 0 ≤ 7293034 by omega⟩ ?_
  refine W.eq (g2 := F0 m 2141 ls [.int (fX8_arrest σ th a1 a2).2.2]) rfl ?_
  refine xtop (show Value.int (fX8_arrest σ th a1 a2).2.2 = .int k1 by rw [ek1]) ?_
  refine lv_iload hx hb dL_law_2141 (lv_at hl 1 rfl) ?_
  refine lv_icmp_eq (tgt := 2148) hx hb dL_law_2143 (by decide) (fun c1 => ?_) (fun c1 => absurd rfl c1)
  refine lv_iload hx hb dL_law_2148 (lv_at hl 1 rfl) ?_
  refine lv_if_ne (tgt := 2172) hx hb dL_law_2150 (by decide) (fun c2 => ?_) (fun c2 => ?_)
  · refine lv_goto (tgt := 2238) hx hb dL_law_2172 (by decide) ?_
    exact W.widen (by omega) (by omega) (kk _ _ _ _ hLI I hS (lv_sub hl [2, 3, 4, 5, 6] rfl))
  · have hk0 : (fX8_arrest σ th a1 a2).2.2 = nI 0 := by rw [← ek1]; exact c2
    have hval : fo1 0 = (if (fX8_arrest σ th a1 a2).1 = 0 then 0 else 1) := hans hk0 _ rfl
    refine lv_aload_n hx hb dL_law_2153 rfl (lv_at hl 5 rfl) ?_
    refine lv_iconst (v := nI 0) hx hb dL_law_2154 (by decide) ?_
    refine xlald (i := 0) (n := 1) hx hb I ho2 (by decide) (by decide) dL_law_2155 ?_
    refine lv_iload hx hb dL_law_2156 (lv_at hl 0 rfl) ?_
    refine lv_if_eq (tgt := 2165) hx hb dL_law_2158 (by decide) (fun c3 => ?_) (fun c3 => ?_)
    · refine lv_lconst (v := 0) hx hb dL_law_2165 (by decide) ?_
      refine xl_eq (tgt := 2172) hx hb dL_law_2166 dL_law_2167 (by decide) (fun _ => ?_) (fun z => absurd (by rw [hval, if_pos (show (fX8_arrest σ th a1 a2).1 = 0 by rw [← ef1]; exact c3)]) z)
      refine lv_goto (tgt := 2238) hx hb dL_law_2172 (by decide) ?_
      exact W.widen (by omega) (by omega) (kk _ _ _ _ hLI I hS (lv_sub hl [2, 3, 4, 5, 6] rfl))
    · refine lv_lconst (v := 1) hx hb dL_law_2161 (by decide) ?_
      refine lv_goto (tgt := 2166) hx hb dL_law_2162 (by decide) ?_
      refine xl_eq (tgt := 2172) hx hb dL_law_2166 dL_law_2167 (by decide) (fun _ => ?_) (fun z => absurd (by rw [hval, if_neg (show ¬ (fX8_arrest σ th a1 a2).1 = 0 by rw [← ef1]; exact c3)]) z)
      refine lv_goto (tgt := 2238) hx hb dL_law_2172 (by decide) ?_
      exact W.widen (by omega) (by omega) (kk _ _ _ _ hLI I hS (lv_sub hl [2, 3, 4, 5, 6] rfl))
set_option maxHeartbeats 4000000 in
set_option maxRecDepth 100000 in
theorem lc_isArrested {p : Program} {l : Launch} {e : Env} {s : State} {m : MethodId} {below : List Frame} {meth : Method} {c : Code} {b L : Nat} {xs : Nat → Int32} {Q : State → Prop} {D : va_G} {E : Nat → ClassId} {h : XW} {H : Heap} {locs : List Loc} {cells slots X r ou i : Nat} {ls : Array Slot} (F : LF p l s m c b L xs) (hI : LI E X r ou h) (I : XI s.heap.size D E h s H) (hS : va_S (xA s.heap.size) s.heap H locs) (hcs : cells + 9 ≤ 601024 ∧ slots + 65 ≤ 7293034) (hi : i + 6 ≤ L) (hL : L ≤ 3072) (hl : lv_has ls 8 [(0, .ref b), (1, .ref X), (2, .ref r), (3, .ref ou), (4, .int (nI i))])
    (kk : ∀ (h2 : XW) (H2 : Heap) (locs2 : List Loc) (ls2 : Array Slot), LI E X r ou h2 → XI s.heap.size D E h2 s H2 → va_S (xA s.heap.size) s.heap H2 locs2 → lv_has ls2 8 [(0, .ref b), (1, .ref X), (2, .ref r), (3, .ref ou), (4, .int (nI i))] → W p l e room_1 s m #[Value.ref b] below meth c H2 locs2 (cells + 9) (slots + 65) Q (F0 m 2238 ls2 [])) : W p l e room_1 s m #[Value.ref b] below meth c H locs cells slots Q (F0 m 2175 ls []) := by
  obtain ⟨hx, hb, hml, hown, hts, hX, hbl, hCa, hlst⟩ := F
  obtain ⟨σ, τ, th, ad, fa, ar, fo, hR, rfl, hM, hou, ho, hRel, hW⟩ := hI
  have hMW := hRel.MW hW
  have hbA : ¬ xA s.heap.size b := Nat.not_le.mpr hbl
  have v1 : vp_in (nI i + nI 1) L := by rw [nI_add]; exact vp_in_nI (by omega) (by omega)
  obtain ⟨a1, ea1⟩ : ∃ y : Int32, y = xs (nI i + nI 1).toNatClampNeg := ⟨_, rfl⟩
  have e1 : Value.int (xs (nI i + nI 1).toNatClampNeg) = .int a1 := by rw [ea1]
  have q := q_isArrested hRel hW th a1
  refine lv_aload_n hx hb dL_law_2175 rfl (lv_at hl 1 rfl) ?_
  refine lv_aload_n hx hb dL_law_2176 rfl (lv_at hl 0 rfl) ?_
  refine lv_iload hx hb dL_law_2177 (lv_at hl 4 rfl) ?_
  refine lv_iconst (v := nI 1) hx hb dL_law_2179 (by decide) ?_
  refine lv_iadd hx hb dL_law_2180 ?_
  refine va_sld hx hb hX hbl hbA hS v1 dL_law_2181 ?_
  refine xtop e1 ?_
  refine lv_aload_n hx hb dL_law_2182 rfl (lv_at hl 3 rfl) ?_
  refine xcsW (As := [.ref (ad 0 0), .int a1, .ref ou]) (rest := []) ⟨hx, hb, hml, hown, hts⟩ (mL_isArrested l s.heap.size D E h hlst (lPr r ou ar) τ ad fa hR hW ou fo (Or.inl rfl) ho a1 (hE1 q)) (vx_cwSW 3 hts gL_law_L_isArrested rfl rfl rfl (by decide +kernel) ⟨Nat.le_of_ble_eq_true rfl, Nat.le_of_ble_eq_true rfl⟩) I hCa hS rfl hl.1 rfl (Nat.le_of_ble_eq_true rfl) dL_law_2183 ⟨show cells + 1 ≤ 601024 by omega, show slots + 6 ≤ 7293034 by omega⟩ (fun v9 h1 H locs q9 I hS => ?_)
  obtain ⟨rfl, τ1, ad1, fa1, fo1, hRel1, hW1, hR1, h00, hpr, ho1, hans⟩ := l_post (by decide) hR rfl hW ho q q9
  obtain ⟨k1, ek1⟩ : ∃ y, y = (fX8_isArrested σ th a1).2.2 := ⟨_, rfl⟩
  refine W.eq (g2 := F0 m 2186 ls [.int (fX8_isArrested σ th a1).2.2]) rfl ?_
  refine xtop (show Value.int (fX8_isArrested σ th a1).2.2 = .int k1 by rw [ek1]) ?_
  refine lv_istore (lv' := [(5, .int k1), (0, .ref b), (1, .ref (ad 0 0)), (2, .ref r), (3, .ref ou), (4, .int (nI i))]) hx hb dL_law_2186 hl (by decide) rfl (fun ls hl => ?_)
  have hM1 : RM E σ th r (arN ar H.size) h1 := (hM.keep (hpr r (Or.inr (Or.inl rfl)) hou.1.symm) (fun k hk ha => hpr (ar k) (Or.inr (Or.inr ⟨k, hk, ha, rfl⟩)) (hou.2 k hk ha).symm)).re (fun b e he => I.lt b e he)
  have hB1 : ∀ b e, h1 b = some e → b < H.size := fun b e he => I.lt b e he
  refine lv_aload_n hx hb dL_law_2188 rfl (lv_at hl 3 rfl) ?_
  refine lv_aload_n hx hb dL_law_2189 rfl (lv_at hl 1 rfl) ?_
  refine lv_iload hx hb dL_law_2190 (lv_at hl 5 rfl) ?_
  refine lv_iconst (v := nI 1) hx hb dL_law_2192 (by decide) ?_
  refine lv_iadd hx hb dL_law_2193 ?_
  refine va_sld hx hb hX hbl hbA hS v1 dL_law_2194 ?_
  refine xtop e1 ?_
  refine xcvQ (As := [.int a1]) (rest := []) ⟨hx, hb, hml, hown, hts⟩ (mX8_isArrested l s.heap.size D E h1 σ th r (arN ar H.size) hM1 hMW a1) (cwV 1 hts gL_law_X8_isArrested rfl rfl rfl (by decide +kernel) ⟨Nat.le_of_ble_eq_true rfl, Nat.le_of_ble_eq_true rfl⟩) I hS hM1.1 rfl rfl hl.1 rfl (Nat.le_of_ble_eq_true rfl) dL_law_2195 ⟨show cells + 1 + 0 ≤ 601024 by omega, show slots + 6 + 0 ≤ 7293034 by omega⟩ (fun v9 h2 H2 locs q9 I hS => ?_)
  obtain ⟨rfl, hM2, hF2⟩ := q9
  obtain ⟨ho2, hLI⟩ := l_next hR1 h00 hM2 hB1 hF2 hou ho1 hRel1 hW1
  obtain ⟨f1, ef1⟩ : ∃ y, y = (fX8_isArrested σ th a1).1 := ⟨_, rfl⟩
  refine W.eq (g2 := F0 m 2198 ls [.int (fX8_isArrested σ th a1).1]) rfl ?_
  refine xtop (show Value.int (fX8_isArrested σ th a1).1 = .int f1 by rw [ef1]) ?_
  refine lv_istore (lv' := [(6, .int f1), (5, .int k1), (0, .ref b), (1, .ref (ad 0 0)), (2, .ref r), (3, .ref ou), (4, .int (nI i))]) hx hb dL_law_2198 hl (by decide) rfl (fun ls hl => ?_)
  refine lv_aload_n hx hb dL_law_2200 rfl (lv_at hl 4 rfl) ?_
  refine xcvR (As := ([] : List Value)) (rest := []) ⟨hx, hb, hml, hown, hts⟩ (mX8_thrown l s.heap.size D E h2 _ _ r _ hM2 (hRel1.MW hW1)) (cwV 0 hts gL_law_X8_thrown rfl rfl rfl (by decide +kernel) ⟨Nat.le_of_ble_eq_true rfl, Nat.le_of_ble_eq_true rfl⟩) I hM2.1 rfl rfl hl.1 rfl (Nat.le_of_ble_eq_true rfl) dL_law_2201 ⟨show cells + 1 + 0 + 0 ≤ 601024 by omega, show slots + 6 + 0 + 0 ≤ 7293034 by omega⟩ ?_
  refine W.eq (g2 := F0 m 2204 ls [.int (fX8_isArrested σ th a1).2.2]) rfl ?_
  refine xtop (show Value.int (fX8_isArrested σ th a1).2.2 = .int k1 by rw [ek1]) ?_
  refine lv_iload hx hb dL_law_2204 (lv_at hl 1 rfl) ?_
  refine lv_icmp_eq (tgt := 2211) hx hb dL_law_2206 (by decide) (fun c1 => ?_) (fun c1 => absurd rfl c1)
  refine lv_iload hx hb dL_law_2211 (lv_at hl 1 rfl) ?_
  refine lv_if_ne (tgt := 2235) hx hb dL_law_2213 (by decide) (fun c2 => ?_) (fun c2 => ?_)
  · refine lv_goto (tgt := 2238) hx hb dL_law_2235 (by decide) ?_
    exact W.widen (by omega) (by omega) (kk _ _ _ _ hLI I hS (lv_sub hl [2, 3, 4, 5, 6] rfl))
  · have hk0 : (fX8_isArrested σ th a1).2.2 = nI 0 := by rw [← ek1]; exact c2
    have hval : fo1 0 = (if (fX8_isArrested σ th a1).1 = 0 then 0 else 1) := hans hk0 _ rfl
    refine lv_aload_n hx hb dL_law_2216 rfl (lv_at hl 5 rfl) ?_
    refine lv_iconst (v := nI 0) hx hb dL_law_2217 (by decide) ?_
    refine xlald (i := 0) (n := 1) hx hb I ho2 (by decide) (by decide) dL_law_2218 ?_
    refine lv_iload hx hb dL_law_2219 (lv_at hl 0 rfl) ?_
    refine lv_if_eq (tgt := 2228) hx hb dL_law_2221 (by decide) (fun c3 => ?_) (fun c3 => ?_)
    · refine lv_lconst (v := 0) hx hb dL_law_2228 (by decide) ?_
      refine xl_eq (tgt := 2235) hx hb dL_law_2229 dL_law_2230 (by decide) (fun _ => ?_) (fun z => absurd (by rw [hval, if_pos (show (fX8_isArrested σ th a1).1 = 0 by rw [← ef1]; exact c3)]) z)
      refine lv_goto (tgt := 2238) hx hb dL_law_2235 (by decide) ?_
      exact W.widen (by omega) (by omega) (kk _ _ _ _ hLI I hS (lv_sub hl [2, 3, 4, 5, 6] rfl))
    · refine lv_lconst (v := 1) hx hb dL_law_2224 (by decide) ?_
      refine lv_goto (tgt := 2229) hx hb dL_law_2225 (by decide) ?_
      refine xl_eq (tgt := 2235) hx hb dL_law_2229 dL_law_2230 (by decide) (fun _ => ?_) (fun z => absurd (by rw [hval, if_neg (show ¬ (fX8_isArrested σ th a1).1 = 0 by rw [← ef1]; exact c3)]) z)
      refine lv_goto (tgt := 2238) hx hb dL_law_2235 (by decide) ?_
      exact W.widen (by omega) (by omega) (kk _ _ _ _ hLI I hS (lv_sub hl [2, 3, 4, 5, 6] rfl))
