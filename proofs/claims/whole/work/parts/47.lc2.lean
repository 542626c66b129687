set_option maxHeartbeats 4000000 in
set_option maxRecDepth 100000 in
theorem lc_claim {p : Program} {l : Launch} {e : Env} {s : State} {m : MethodId} {below : List Frame} {meth : Method} {c : Code} {b L : Nat} {xs : Nat → Int32} {Q : State → Prop} {D : va_G} {E : Nat → ClassId} {h : XW} {H : Heap} {locs : List Loc} {cells slots X r ou i : Nat} {ls : Array Slot} (F : LF p l s m c b L xs) (hI : LI E X r ou h) (I : XI s.heap.size D E h s H) (hS : va_S (xA s.heap.size) s.heap H locs) (hcs : cells + 9 ≤ 601024 ∧ slots + 65 ≤ 7293034) (hi : i + 6 ≤ L) (hL : L ≤ 3072) (hl : lv_has ls 8 [(0, .ref b), (1, .ref X), (2, .ref r), (3, .ref ou), (4, .int (nI i))])
    (kk : ∀ (h2 : XW) (H2 : Heap) (locs2 : List Loc) (ls2 : Array Slot), LI E X r ou h2 → XI s.heap.size D E h2 s H2 → va_S (xA s.heap.size) s.heap H2 locs2 → lv_has ls2 8 [(0, .ref b), (1, .ref X), (2, .ref r), (3, .ref ou), (4, .int (nI i))] → W p l e room_1 s m #[Value.ref b] below meth c H2 locs2 (cells + 9) (slots + 65) Q (F0 m 2238 ls2 [])) : W p l e room_1 s m #[Value.ref b] below meth c H locs cells slots Q (F0 m 819 ls []) := by
  obtain ⟨hx, hb, hml, hown, hts, hX, hbl, hCa, hlst⟩ := F
  obtain ⟨σ, τ, th, ad, fa, ar, fo, hR, rfl, hM, hou, ho, hRel, hW⟩ := hI
  have hMW := hRel.MW hW
  have hbA : ¬ xA s.heap.size b := Nat.not_le.mpr hbl
  have v1 : vp_in (nI i + nI 1) L := by rw [nI_add]; exact vp_in_nI (by omega) (by omega)
  obtain ⟨a1, ea1⟩ : ∃ y : Int32, y = xs (nI i + nI 1).toNatClampNeg := ⟨_, rfl⟩
  have e1 : Value.int (xs (nI i + nI 1).toNatClampNeg) = .int a1 := by rw [ea1]
  have v2 : vp_in (nI i + nI 2) L := by rw [nI_add]; exact vp_in_nI (by omega) (by omega)
  obtain ⟨a2, ea2⟩ : ∃ y : Int32, y = xs (nI i + nI 2).toNatClampNeg := ⟨_, rfl⟩
  have e2 : Value.int (xs (nI i + nI 2).toNatClampNeg) = .int a2 := by rw [ea2]
  have v3 : vp_in (nI i + nI 3) L := by rw [nI_add]; exact vp_in_nI (by omega) (by omega)
  obtain ⟨a3, ea3⟩ : ∃ y : Int32, y = xs (nI i + nI 3).toNatClampNeg := ⟨_, rfl⟩
  have e3 : Value.int (xs (nI i + nI 3).toNatClampNeg) = .int a3 := by rw [ea3]
  have v4 : vp_in (nI i + nI 4) L := by rw [nI_add]; exact vp_in_nI (by omega) (by omega)
  obtain ⟨a4, ea4⟩ : ∃ y : Int32, y = xs (nI i + nI 4).toNatClampNeg := ⟨_, rfl⟩
  have e4 : Value.int (xs (nI i + nI 4).toNatClampNeg) = .int a4 := by rw [ea4]
  have v5 : vp_in (nI i + nI 5) L := by rw [nI_add]; exact vp_in_nI (by omega) (by omega)
  obtain ⟨a5, ea5⟩ : ∃ y : Int32, y = xs (nI i + nI 5).toNatClampNeg := ⟨_, rfl⟩
  have e5 : Value.int (xs (nI i + nI 5).toNatClampNeg) = .int a5 := by rw [ea5]
  have q := q_claim hRel hW th a1 a2 a3 a4 a5
  refine lv_aload_n hx hb dL_law_819 rfl (lv_at hl 1 rfl) ?_
  refine lv_aload_n hx hb dL_law_820 rfl (lv_at hl 0 rfl) ?_
  refine lv_iload hx hb dL_law_821 (lv_at hl 4 rfl) ?_
  refine lv_iconst (v := nI 1) hx hb dL_law_823 (by decide) ?_
  refine lv_iadd hx hb dL_law_824 ?_
  refine va_sld hx hb hX hbl hbA hS v1 dL_law_825 ?_
  refine xtop e1 ?_
  refine lv_aload_n hx hb dL_law_826 rfl (lv_at hl 0 rfl) ?_
  refine lv_iload hx hb dL_law_827 (lv_at hl 4 rfl) ?_
  refine lv_iconst (v := nI 2) hx hb dL_law_829 (by decide) ?_
  refine lv_iadd hx hb dL_law_830 ?_
  refine va_sld hx hb hX hbl hbA hS v2 dL_law_831 ?_
  refine xtop e2 ?_
  refine lv_aload_n hx hb dL_law_832 rfl (lv_at hl 0 rfl) ?_
  refine lv_iload hx hb dL_law_833 (lv_at hl 4 rfl) ?_
  refine lv_iconst (v := nI 3) hx hb dL_law_835 (by decide) ?_
  refine lv_iadd hx hb dL_law_836 ?_
  refine va_sld hx hb hX hbl hbA hS v3 dL_law_837 ?_
  refine xtop e3 ?_
  refine lv_aload_n hx hb dL_law_838 rfl (lv_at hl 0 rfl) ?_
  refine lv_iload hx hb dL_law_839 (lv_at hl 4 rfl) ?_
  refine lv_iconst (v := nI 4) hx hb dL_law_841 (by decide) ?_
  refine lv_iadd hx hb dL_law_842 ?_
  refine va_sld hx hb hX hbl hbA hS v4 dL_law_843 ?_
  refine xtop e4 ?_
  refine lv_aload_n hx hb dL_law_844 rfl (lv_at hl 0 rfl) ?_
  refine lv_iload hx hb dL_law_845 (lv_at hl 4 rfl) ?_
  refine lv_iconst (v := nI 5) hx hb dL_law_847 (by decide) ?_
  refine lv_iadd hx hb dL_law_848 ?_
  refine va_sld hx hb hX hbl hbA hS v5 dL_law_849 ?_
  refine xtop e5 ?_
  refine lv_aload_n hx hb dL_law_850 rfl (lv_at hl 3 rfl) ?_
  refine xcsW (As := [.ref (ad 0 0), .int a1, .int a2, .int a3, .int a4, .int a5, .ref ou]) (rest := []) ⟨hx, hb, hml, hown, hts⟩ (mL_claim l s.heap.size D E h hlst (lPr r ou ar) τ ad fa hR hW ou fo (Or.inl rfl) ho a1 a2 a3 a4 a5 hRel.1.2.2.2.2.2.2.2.2.1 (hE3 q)) (vx_cwSW 7 hts gL_law_L_claim rfl rfl rfl (by decide +kernel) ⟨Nat.le_of_ble_eq_true rfl, Nat.le_of_ble_eq_true rfl⟩) I hCa hS rfl hl.1 rfl (Nat.le_of_ble_eq_true rfl) dL_law_851 ⟨show cells + 8 ≤ 601024 by omega, show slots + 50 ≤ 7293034 by omega⟩ (fun v9 h1 H locs q9 I hS => ?_)
  obtain ⟨rfl, τ1, ad1, fa1, fo1, hRel1, hW1, hR1, h00, hpr, ho1, hans⟩ := l_post (by decide) hR rfl hW ho q q9
  obtain ⟨k1, ek1⟩ : ∃ y, y = (fX8_claim σ th a1 a2 a3 a4 a5).2.2 := ⟨_, rfl⟩
  refine W.eq (g2 := F0 m 854 ls [.int (fX8_claim σ th a1 a2 a3 a4 a5).2.2]) rfl ?_
  refine xtop (show Value.int (fX8_claim σ th a1 a2 a3 a4 a5).2.2 = .int k1 by rw [ek1]) ?_
  refine lv_istore (lv' := [(5, .int k1), (0, .ref b), (1, .ref (ad 0 0)), (2, .ref r), (3, .ref ou), (4, .int (nI i))]) hx hb dL_law_854 hl (by decide) rfl (fun ls hl => ?_)
  have hM1 : RM E σ th r (arN ar H.size) h1 := (hM.keep (hpr r (Or.inr (Or.inl rfl)) hou.1.symm) (fun k hk ha => hpr (ar k) (Or.inr (Or.inr ⟨k, hk, ha, rfl⟩)) (hou.2 k hk ha).symm)).re (fun b e he => I.lt b e he)
  have hB1 : ∀ b e, h1 b = some e → b < H.size := fun b e he => I.lt b e he
  refine lv_aload_n hx hb dL_law_856 rfl (lv_at hl 3 rfl) ?_
  refine lv_aload_n hx hb dL_law_857 rfl (lv_at hl 1 rfl) ?_
  refine lv_iload hx hb dL_law_858 (lv_at hl 5 rfl) ?_
  refine lv_iconst (v := nI 1) hx hb dL_law_860 (by decide) ?_
  refine lv_iadd hx hb dL_law_861 ?_
  refine va_sld hx hb hX hbl hbA hS v1 dL_law_862 ?_
  refine xtop e1 ?_
  refine lv_aload_n hx hb dL_law_863 rfl (lv_at hl 1 rfl) ?_
  refine lv_iload hx hb dL_law_864 (lv_at hl 5 rfl) ?_
  refine lv_iconst (v := nI 2) hx hb dL_law_866 (by decide) ?_
  refine lv_iadd hx hb dL_law_867 ?_
  refine va_sld hx hb hX hbl hbA hS v2 dL_law_868 ?_
  refine xtop e2 ?_
  refine lv_aload_n hx hb dL_law_869 rfl (lv_at hl 1 rfl) ?_
  refine lv_iload hx hb dL_law_870 (lv_at hl 5 rfl) ?_
  refine lv_iconst (v := nI 3) hx hb dL_law_872 (by decide) ?_
  refine lv_iadd hx hb dL_law_873 ?_
  refine va_sld hx hb hX hbl hbA hS v3 dL_law_874 ?_
  refine xtop e3 ?_
  refine lv_aload_n hx hb dL_law_875 rfl (lv_at hl 1 rfl) ?_
  refine lv_iload hx hb dL_law_876 (lv_at hl 5 rfl) ?_
  refine lv_iconst (v := nI 4) hx hb dL_law_878 (by decide) ?_
  refine lv_iadd hx hb dL_law_879 ?_
  refine va_sld hx hb hX hbl hbA hS v4 dL_law_880 ?_
  refine xtop e4 ?_
  refine lv_aload_n hx hb dL_law_881 rfl (lv_at hl 1 rfl) ?_
  refine lv_iload hx hb dL_law_882 (lv_at hl 5 rfl) ?_
  refine lv_iconst (v := nI 5) hx hb dL_law_884 (by decide) ?_
  refine lv_iadd hx hb dL_law_885 ?_
  refine va_sld hx hb hX hbl hbA hS v5 dL_law_886 ?_
  refine xtop e5 ?_
  refine xcvQ (As := [.int a1, .int a2, .int a3, .int a4, .int a5]) (rest := []) ⟨hx, hb, hml, hown, hts⟩ (mX8_claim l s.heap.size D E h1 σ th r (arN ar H.size) hM1 hMW a1 a2 a3 a4 a5) (cwV 5 hts gL_law_X8_claim rfl rfl rfl (by decide +kernel) ⟨Nat.le_of_ble_eq_true rfl, Nat.le_of_ble_eq_true rfl⟩) I hS hM1.1 rfl rfl hl.1 rfl (Nat.le_of_ble_eq_true rfl) dL_law_887 ⟨show cells + 8 + 0 ≤ 601024 by omega, show slots + 50 + 0 ≤ 7293034 by omega⟩ (fun v9 h2 H2 locs q9 I hS => ?_)
  obtain ⟨rfl, hM2, hF2⟩ := q9
  obtain ⟨ho2, hLI⟩ := l_next hR1 h00 hM2 hB1 hF2 hou ho1 hRel1 hW1
  obtain ⟨f1, ef1⟩ : ∃ y, y = (fX8_claim σ th a1 a2 a3 a4 a5).1 := ⟨_, rfl⟩
  refine W.eq (g2 := F0 m 890 ls [.int (fX8_claim σ th a1 a2 a3 a4 a5).1]) rfl ?_
  refine xtop (show Value.int (fX8_claim σ th a1 a2 a3 a4 a5).1 = .int f1 by rw [ef1]) ?_
  refine lv_istore (lv' := [(6, .int f1), (5, .int k1), (0, .ref b), (1, .ref (ad 0 0)), (2, .ref r), (3, .ref ou), (4, .int (nI i))]) hx hb dL_law_890 hl (by decide) rfl (fun ls hl => ?_)
  refine lv_aload_n hx hb dL_law_892 rfl (lv_at hl 4 rfl) ?_
  refine xcvR (As := ([] : List Value)) (rest := []) ⟨hx, hb, hml, hown, hts⟩ (mX8_thrown l s.heap.size D E h2 _ _ r _ hM2 (hRel1.MW hW1)) (cwV 0 hts gL_law_X8_thrown rfl rfl rfl (by decide +kernel) ⟨Nat.le_of_ble_eq_true rfl, Nat.le_of_ble_eq_true rfl⟩) I hM2.1 rfl rfl hl.1 rfl (Nat.le_of_ble_eq_true rfl) dL_law_893 ⟨show cells + 8 + 0 + 0 ≤ 601024 by omega, show slots + 50 + 0 + 0 ≤ 7293034 by omega⟩ ?_
  refine W.eq (g2 := F0 m 896 ls [.int (fX8_claim σ th a1 a2 a3 a4 a5).2.2]) rfl ?_
  refine xtop (show Value.int (fX8_claim σ th a1 a2 a3 a4 a5).2.2 = .int k1 by rw [ek1]) ?_
  refine lv_iload hx hb dL_law_896 (lv_at hl 1 rfl) ?_
  refine lv_icmp_eq (tgt := 903) hx hb dL_law_898 (by decide) (fun c1 => ?_) (fun c1 => absurd rfl c1)
  refine lv_iload hx hb dL_law_903 (lv_at hl 1 rfl) ?_
  refine lv_if_ne (tgt := 920) hx hb dL_law_905 (by decide) (fun c2 => ?_) (fun c2 => ?_)
  · refine lv_goto (tgt := 2238) hx hb dL_law_920 (by decide) ?_
    exact W.widen (by omega) (by omega) (kk _ _ _ _ hLI I hS (lv_sub hl [2, 3, 4, 5, 6] rfl))
  · have hk0 : (fX8_claim σ th a1 a2 a3 a4 a5).2.2 = nI 0 := by rw [← ek1]; exact c2
    have hval : fo1 0 = (fX8_claim σ th a1 a2 a3 a4 a5).1.toInt64 := hans hk0 _ rfl
    refine lv_aload_n hx hb dL_law_908 rfl (lv_at hl 5 rfl) ?_
    refine lv_iconst (v := nI 0) hx hb dL_law_909 (by decide) ?_
    refine xlald (i := 0) (n := 1) hx hb I ho2 (by decide) (by decide) dL_law_910 ?_
    refine lv_iload hx hb dL_law_911 (lv_at hl 0 rfl) ?_
    refine lv_i2l (v := f1.toInt64) hx hb dL_law_913 rfl ?_
    refine xl_eq (tgt := 920) hx hb dL_law_914 dL_law_915 (by decide) (fun _ => ?_) (fun z => absurd (by rw [hval, ef1]) z)
    refine lv_goto (tgt := 2238) hx hb dL_law_920 (by decide) ?_
    exact W.widen (by omega) (by omega) (kk _ _ _ _ hLI I hS (lv_sub hl [2, 3, 4, 5, 6] rfl))
set_option maxHeartbeats 4000000 in
set_option maxRecDepth 100000 in
theorem lc_collide {p : Program} {l : Launch} {e : Env} {s : State} {m : MethodId} {below : List Frame} {meth : Method} {c : Code} {b L : Nat} {xs : Nat → Int32} {Q : State → Prop} {D : va_G} {E : Nat → ClassId} {h : XW} {H : Heap} {locs : List Loc} {cells slots X r ou i : Nat} {ls : Array Slot} (F : LF p l s m c b L xs) (hI : LI E X r ou h) (I : XI s.heap.size D E h s H) (hS : va_S (xA s.heap.size) s.heap H locs) (hcs : cells + 9 ≤ 601024 ∧ slots + 65 ≤ 7293034) (hi : i + 6 ≤ L) (hL : L ≤ 3072) (hl : lv_has ls 8 [(0, .ref b), (1, .ref X), (2, .ref r), (3, .ref ou), (4, .int (nI i))])
    (kk : ∀ (h2 : XW) (H2 : Heap) (locs2 : List Loc) (ls2 : Array Slot), LI E X r ou h2 → XI s.heap.size D E h2 s H2 → va_S (xA s.heap.size) s.heap H2 locs2 → lv_has ls2 8 [(0, .ref b), (1, .ref X), (2, .ref r), (3, .ref ou), (4, .int (nI i))] → W p l e room_1 s m #[Value.ref b] below meth c H2 locs2 (cells + 9) (slots + 65) Q (F0 m 2238 ls2 [])) : W p l e room_1 s m #[Value.ref b] below meth c H locs cells slots Q (F0 m 923 ls []) := by
  obtain ⟨hx, hb, hml, hown, hts, hX, hbl, hCa, hlst⟩ := F
  obtain ⟨σ, τ, th, ad, fa, ar, fo, hR, rfl, hM, hou, ho, hRel, hW⟩ := hI
  have hMW := hRel.MW hW
  have hbA : ¬ xA s.heap.size b := Nat.not_le.mpr hbl
  have v1 : vp_in (nI i + nI 1) L := by rw [nI_add]; exact vp_in_nI (by omega) (by omega)
  obtain ⟨a1, ea1⟩ : ∃ y : Int32, y = xs (nI i + nI 1).toNatClampNeg := ⟨_, rfl⟩
  have e1 : Value.int (xs (nI i + nI 1).toNatClampNeg) = .int a1 := by rw [ea1]
  have v2 : vp_in (nI i + nI 2) L := by rw [nI_add]; exact vp_in_nI (by omega) (by omega)
  obtain ⟨a2, ea2⟩ : ∃ y : Int32, y = xs (nI i + nI 2).toNatClampNeg := ⟨_, rfl⟩
  have e2 : Value.int (xs (nI i + nI 2).toNatClampNeg) = .int a2 := by rw [ea2]
  have v3 : vp_in (nI i + nI 3) L := by rw [nI_add]; exact vp_in_nI (by omega) (by omega)
  obtain ⟨a3, ea3⟩ : ∃ y : Int32, y = xs (nI i + nI 3).toNatClampNeg := ⟨_, rfl⟩
  have e3 : Value.int (xs (nI i + nI 3).toNatClampNeg) = .int a3 := by rw [ea3]
  have v4 : vp_in (nI i + nI 4) L := by rw [nI_add]; exact vp_in_nI (by omega) (by omega)
  obtain ⟨a4, ea4⟩ : ∃ y : Int32, y = xs (nI i + nI 4).toNatClampNeg := ⟨_, rfl⟩
  have e4 : Value.int (xs (nI i + nI 4).toNatClampNeg) = .int a4 := by rw [ea4]
  have v5 : vp_in (nI i + nI 5) L := by rw [nI_add]; exact vp_in_nI (by omega) (by omega)
  obtain ⟨a5, ea5⟩ : ∃ y : Int32, y = xs (nI i + nI 5).toNatClampNeg := ⟨_, rfl⟩
  have e5 : Value.int (xs (nI i + nI 5).toNatClampNeg) = .int a5 := by rw [ea5]
  have q := q_collide hRel hW th a1 a2 a3 a4 a5
  refine lv_aload_n hx hb dL_law_923 rfl (lv_at hl 1 rfl) ?_
  refine lv_aload_n hx hb dL_law_924 rfl (lv_at hl 0 rfl) ?_
  refine lv_iload hx hb dL_law_925 (lv_at hl 4 rfl) ?_
  refine lv_iconst (v := nI 1) hx hb dL_law_927 (by decide) ?_
  refine lv_iadd hx hb dL_law_928 ?_
  refine va_sld hx hb hX hbl hbA hS v1 dL_law_929 ?_
  refine xtop e1 ?_
  refine lv_aload_n hx hb dL_law_930 rfl (lv_at hl 0 rfl) ?_
  refine lv_iload hx hb dL_law_931 (lv_at hl 4 rfl) ?_
  refine lv_iconst (v := nI 2) hx hb dL_law_933 (by decide) ?_
  refine lv_iadd hx hb dL_law_934 ?_
  refine va_sld hx hb hX hbl hbA hS v2 dL_law_935 ?_
  refine xtop e2 ?_
  refine lv_aload_n hx hb dL_law_936 rfl (lv_at hl 0 rfl) ?_
  refine lv_iload hx hb dL_law_937 (lv_at hl 4 rfl) ?_
  refine lv_iconst (v := nI 3) hx hb dL_law_939 (by decide) ?_
  refine lv_iadd hx hb dL_law_940 ?_
  refine va_sld hx hb hX hbl hbA hS v3 dL_law_941 ?_
  refine xtop e3 ?_
  refine lv_aload_n hx hb dL_law_942 rfl (lv_at hl 0 rfl) ?_
  refine lv_iload hx hb dL_law_943 (lv_at hl 4 rfl) ?_
  refine lv_iconst (v := nI 4) hx hb dL_law_945 (by decide) ?_
  refine lv_iadd hx hb dL_law_946 ?_
  refine va_sld hx hb hX hbl hbA hS v4 dL_law_947 ?_
  refine xtop e4 ?_
  refine lv_aload_n hx hb dL_law_948 rfl (lv_at hl 0 rfl) ?_
  refine lv_iload hx hb dL_law_949 (lv_at hl 4 rfl) ?_
  refine lv_iconst (v := nI 5) hx hb dL_law_951 (by decide) ?_
  refine lv_iadd hx hb dL_law_952 ?_
  refine va_sld hx hb hX hbl hbA hS v5 dL_law_953 ?_
  refine xtop e5 ?_
  refine lv_aload_n hx hb dL_law_954 rfl (lv_at hl 3 rfl) ?_
  refine xcsW (As := [.ref (ad 0 0), .int a1, .int a2, .int a3, .int a4, .int a5, .ref ou]) (rest := []) ⟨hx, hb, hml, hown, hts⟩ (mL_collide l s.heap.size D E h hlst (lPr r ou ar) τ ad fa hR hW ou fo (Or.inl rfl) ho a1 a2 a3 a4 a5 hRel.1.2.2.2.2.2.2.2.2.1 (hE3 q)) (vx_cwSW 7 hts gL_law_L_collide rfl rfl rfl (by decide +kernel) ⟨Nat.le_of_ble_eq_true rfl, Nat.le_of_ble_eq_true rfl⟩) I hCa hS rfl hl.1 rfl (Nat.le_of_ble_eq_true rfl) dL_law_955 ⟨show cells + 9 ≤ 601024 by omega, show slots + 55 ≤ 7293034 by omega⟩ (fun v9 h1 H locs q9 I hS => ?_)
  obtain ⟨rfl, τ1, ad1, fa1, fo1, hRel1, hW1, hR1, h00, hpr, ho1, hans⟩ := l_post (by decide) hR rfl hW ho q q9
  obtain ⟨k1, ek1⟩ : ∃ y, y = (fX8_collide σ th a1 a2 a3 a4 a5).2.2 := ⟨_, rfl⟩
  refine W.eq (g2 := F0 m 958 ls [.int (fX8_collide σ th a1 a2 a3 a4 a5).2.2]) rfl ?_
  refine xtop (show Value.int (fX8_collide σ th a1 a2 a3 a4 a5).2.2 = .int k1 by rw [ek1]) ?_
  refine lv_istore (lv' := [(5, .int k1), (0, .ref b), (1, .ref (ad 0 0)), (2, .ref r), (3, .ref ou), (4, .int (nI i))]) hx hb dL_law_958 hl (by decide) rfl (fun ls hl => ?_)
  have hM1 : RM E σ th r (arN ar H.size) h1 := (hM.keep (hpr r (Or.inr (Or.inl rfl)) hou.1.symm) (fun k hk ha => hpr (ar k) (Or.inr (Or.inr ⟨k, hk, ha, rfl⟩)) (hou.2 k hk ha).symm)).re (fun b e he => I.lt b e he)
  have hB1 : ∀ b e, h1 b = some e → b < H.size := fun b e he => I.lt b e he
  refine lv_aload_n hx hb dL_law_960 rfl (lv_at hl 3 rfl) ?_
  refine lv_aload_n hx hb dL_law_961 rfl (lv_at hl 1 rfl) ?_
  refine lv_iload hx hb dL_law_962 (lv_at hl 5 rfl) ?_
  refine lv_iconst (v := nI 1) hx hb dL_law_964 (by decide) ?_
  refine lv_iadd hx hb dL_law_965 ?_
  refine va_sld hx hb hX hbl hbA hS v1 dL_law_966 ?_
  refine xtop e1 ?_
  refine lv_aload_n hx hb dL_law_967 rfl (lv_at hl 1 rfl) ?_
  refine lv_iload hx hb dL_law_968 (lv_at hl 5 rfl) ?_
  refine lv_iconst (v := nI 2) hx hb dL_law_970 (by decide) ?_
  refine lv_iadd hx hb dL_law_971 ?_
  refine va_sld hx hb hX hbl hbA hS v2 dL_law_972 ?_
  refine xtop e2 ?_
  refine lv_aload_n hx hb dL_law_973 rfl (lv_at hl 1 rfl) ?_
  refine lv_iload hx hb dL_law_974 (lv_at hl 5 rfl) ?_
  refine lv_iconst (v := nI 3) hx hb dL_law_976 (by decide) ?_
  refine lv_iadd hx hb dL_law_977 ?_
  refine va_sld hx hb hX hbl hbA hS v3 dL_law_978 ?_
  refine xtop e3 ?_
  refine lv_aload_n hx hb dL_law_979 rfl (lv_at hl 1 rfl) ?_
  refine lv_iload hx hb dL_law_980 (lv_at hl 5 rfl) ?_
  refine lv_iconst (v := nI 4) hx hb dL_law_982 (by decide) ?_
  refine lv_iadd hx hb dL_law_983 ?_
  refine va_sld hx hb hX hbl hbA hS v4 dL_law_984 ?_
  refine xtop e4 ?_
  refine lv_aload_n hx hb dL_law_985 rfl (lv_at hl 1 rfl) ?_
  refine lv_iload hx hb dL_law_986 (lv_at hl 5 rfl) ?_
  refine lv_iconst (v := nI 5) hx hb dL_law_988 (by decide) ?_
  refine lv_iadd hx hb dL_law_989 ?_
  refine va_sld hx hb hX hbl hbA hS v5 dL_law_990 ?_
  refine xtop e5 ?_
  refine xcvQ (As := [.int a1, .int a2, .int a3, .int a4, .int a5]) (rest := []) ⟨hx, hb, hml, hown, hts⟩ (mX8_collide l s.heap.size D E h1 σ th r (arN ar H.size) hM1 hMW a1 a2 a3 a4 a5) (cwV 5 hts gL_law_X8_collide rfl rfl rfl (by decide +kernel) ⟨Nat.le_of_ble_eq_true rfl, Nat.le_of_ble_eq_true rfl⟩) I hS hM1.1 rfl rfl hl.1 rfl (Nat.le_of_ble_eq_true rfl) dL_law_991 ⟨show cells + 9 + 0 ≤ 601024 by omega, show slots + 55 + 0 ≤ 7293034 by omega⟩ (fun v9 h2 H2 locs q9 I hS => ?_)
  obtain ⟨rfl, hM2, hF2⟩ := q9
  obtain ⟨ho2, hLI⟩ := l_next hR1 h00 hM2 hB1 hF2 hou ho1 hRel1 hW1
  obtain ⟨f1, ef1⟩ : ∃ y, y = (fX8_collide σ th a1 a2 a3 a4 a5).1 := ⟨_, rfl⟩
  refine W.eq (g2 := F0 m 994 ls [.int (fX8_collide σ th a1 a2 a3 a4 a5).1]) rfl ?_
  refine xtop (show Value.int (fX8_collide σ th a1 a2 a3 a4 a5).1 = .int f1 by rw [ef1]) ?_
  refine lv_istore (lv' := [(6, .int f1), (5, .int k1), (0, .ref b), (1, .ref (ad 0 0)), (2, .ref r), (3, .ref ou), (4, .int (nI i))]) hx hb dL_law_994 hl (by decide) rfl (fun ls hl => ?_)
  refine lv_aload_n hx hb dL_law_996 rfl (lv_at hl 4 rfl) ?_
  refine xcvR (As := ([] : List Value)) (rest := []) ⟨hx, hb, hml, hown, hts⟩ (mX8_thrown l s.heap.size D E h2 _ _ r _ hM2 (hRel1.MW hW1)) (cwV 0 hts gL_law_X8_thrown rfl rfl rfl (by decide +kernel) ⟨Nat.le_of_ble_eq_true rfl, Nat.le_of_ble_eq_true rfl⟩) I hM2.1 rfl rfl hl.1 rfl (Nat.le_of_ble_eq_true rfl) dL_law_997 ⟨show cells + 9 + 0 + 0 ≤ 601024 by omega, show slots + 55 + 0 + 0 ≤ 7293034 by omega⟩ ?_
  refine W.eq (g2 := F0 m 1000 ls [.int (fX8_collide σ th a1 a2 a3 a4 a5).2.2]) rfl ?_
  refine xtop (show Value.int (fX8_collide σ th a1 a2 a3 a4 a5).2.2 = .int k1 by rw [ek1]) ?_
  refine lv_iload hx hb dL_law_1000 (lv_at hl 1 rfl) ?_
  refine lv_icmp_eq (tgt := 1007) hx hb dL_law_1002 (by decide) (fun c1 => ?_) (fun c1 => absurd rfl c1)
  refine lv_iload hx hb dL_law_1007 (lv_at hl 1 rfl) ?_
  refine lv_if_ne (tgt := 1024) hx hb dL_law_1009 (by decide) (fun c2 => ?_) (fun c2 => ?_)
  · refine lv_goto (tgt := 2238) hx hb dL_law_1024 (by decide) ?_
    exact W.widen (by omega) (by omega) (kk _ _ _ _ hLI I hS (lv_sub hl [2, 3, 4, 5, 6] rfl))
  · have hk0 : (fX8_collide σ th a1 a2 a3 a4 a5).2.2 = nI 0 := by rw [← ek1]; exact c2
    have hval : fo1 0 = (fX8_collide σ th a1 a2 a3 a4 a5).1.toInt64 := hans hk0 _ rfl
    refine lv_aload_n hx hb dL_law_1012 rfl (lv_at hl 5 rfl) ?_
    refine lv_iconst (v := nI 0) hx hb dL_law_1013 (by decide) ?_
    refine xlald (i := 0) (n := 1) hx hb I ho2 (by decide) (by decide) dL_law_1014 ?_
    refine lv_iload hx hb dL_law_1015 (lv_at hl 0 rfl) ?_
    refine lv_i2l (v := f1.toInt64) hx hb dL_law_1017 rfl ?_
    refine xl_eq (tgt := 1024) hx hb dL_law_1018 dL_law_1019 (by decide) (fun _ => ?_) (fun z => absurd (by rw [hval, ef1]) z)
    refine lv_goto (tgt := 2238) hx hb dL_law_1024 (by decide) ?_
    exact W.widen (by omega) (by omega) (kk _ _ _ _ hLI I hS (lv_sub hl [2, 3, 4, 5, 6] rfl))
set_option maxHeartbeats 4000000 in
set_option maxRecDepth 100000 in
theorem lc_estimate {p : Program} {l : Launch} {e : Env} {s : State} {m : MethodId} {below : List Frame} {meth : Method} {c : Code} {b L : Nat} {xs : Nat → Int32} {Q : State → Prop} {D : va_G} {E : Nat → ClassId} {h : XW} {H : Heap} {locs : List Loc} {cells slots X r ou i : Nat} {ls : Array Slot} (F : LF p l s m c b L xs) (hI : LI E X r ou h) (I : XI s.heap.size D E h s H) (hS : va_S (xA s.heap.size) s.heap H locs) (hcs : cells + 9 ≤ 601024 ∧ slots + 65 ≤ 7293034) (hi : i + 6 ≤ L) (hL : L ≤ 3072) (hl : lv_has ls 8 [(0, .ref b), (1, .ref X), (2, .ref r), (3, .ref ou), (4, .int (nI i))])
    (kk : ∀ (h2 : XW) (H2 : Heap) (locs2 : List Loc) (ls2 : Array Slot), LI E X r ou h2 → XI s.heap.size D E h2 s H2 → va_S (xA s.heap.size) s.heap H2 locs2 → lv_has ls2 8 [(0, .ref b), (1, .ref X), (2, .ref r), (3, .ref ou), (4, .int (nI i))] → W p l e room_1 s m #[Value.ref b] below meth c H2 locs2 (cells + 9) (slots + 65) Q (F0 m 2238 ls2 [])) : W p l e room_1 s m #[Value.ref b] below meth c H locs cells slots Q (F0 m 1027 ls []) := by
  obtain ⟨hx, hb, hml, hown, hts, hX, hbl, hCa, hlst⟩ := F
  obtain ⟨σ, τ, th, ad, fa, ar, fo, hR, rfl, hM, hou, ho, hRel, hW⟩ := hI
  have hMW := hRel.MW hW
  have hbA : ¬ xA s.heap.size b := Nat.not_le.mpr hbl
  have v1 : vp_in (nI i + nI 1) L := by rw [nI_add]; exact vp_in_nI (by omega) (by omega)
  obtain ⟨a1, ea1⟩ : ∃ y : Int32, y = xs (nI i + nI 1).toNatClampNeg := ⟨_, rfl⟩
  have e1 : Value.int (xs (nI i + nI 1).toNatClampNeg) = .int a1 := by rw [ea1]
  have v2 : vp_in (nI i + nI 2) L := by rw [nI_add]; exact vp_in_nI (by omega) (by omega)
  obtain ⟨a2, ea2⟩ : ∃ y : Int32, y = xs (nI i + nI 2).toNatClampNeg := ⟨_, rfl⟩
  have e2 : Value.int (xs (nI i + nI 2).toNatClampNeg) = .int a2 := by rw [ea2]
  have q := q_estimate hRel hW th a1 a2
  refine lv_aload_n hx hb dL_law_1027 rfl (lv_at hl 1 rfl) ?_
  refine lv_aload_n hx hb dL_law_1028 rfl (lv_at hl 0 rfl) ?_
  refine lv_iload hx hb dL_law_1029 (lv_at hl 4 rfl) ?_
  refine lv_iconst (v := nI 1) hx hb dL_law_1031 (by decide) ?_
  refine lv_iadd hx hb dL_law_1032 ?_
  refine va_sld hx hb hX hbl hbA hS v1 dL_law_1033 ?_
  refine xtop e1 ?_
  refine lv_aload_n hx hb dL_law_1034 rfl (lv_at hl 0 rfl) ?_
  refine lv_iload hx hb dL_law_1035 (lv_at hl 4 rfl) ?_
  refine lv_iconst (v := nI 2) hx hb dL_law_1037 (by decide) ?_
  refine lv_iadd hx hb dL_law_1038 ?_
  refine va_sld hx hb hX hbl hbA hS v2 dL_law_1039 ?_
  refine xtop e2 ?_
  refine lv_aload_n hx hb dL_law_1040 rfl (lv_at hl 3 rfl) ?_
  refine xcsW (As := [.ref (ad 0 0), .int a1, .int a2, .ref ou]) (rest := []) ⟨hx, hb, hml, hown, hts⟩ (mL_estimate l s.heap.size D E h hlst (lPr r ou ar) τ ad fa hR hW ou fo (Or.inl rfl) ho a1 a2 (hE3 q)) (vx_cwSW 4 hts gL_law_L_estimate rfl rfl rfl (by decide +kernel) ⟨Nat.le_of_ble_eq_true rfl, Nat.le_of_ble_eq_true rfl⟩) I hCa hS rfl hl.1 rfl (Nat.le_of_ble_eq_true rfl) dL_law_1041 ⟨show cells + 3 ≤ 601024 by omega, show slots + 18 ≤ 7293034 by omega⟩ (fun v9 h1 H locs q9 I hS => ?_)
  obtain ⟨rfl, τ1, ad1, fa1, fo1, hRel1, hW1, hR1, h00, hpr, ho1, hans⟩ := l_post (by decide) hR rfl hW ho q q9
  obtain ⟨k1, ek1⟩ : ∃ y, y = (fX8_estimate σ th a1 a2).2.2 := ⟨_, rfl⟩
  refine W.eq (g2 := F0 m 1044 ls [.int (fX8_estimate σ th a1 a2).2.2]) rfl ?_
  refine xtop (show Value.int (fX8_estimate σ th a1 a2).2.2 = .int k1 by rw [ek1]) ?_
  refine lv_istore (lv' := [(5, .int k1), (0, .ref b), (1, .ref (ad 0 0)), (2, .ref r), (3, .ref ou), (4, .int (nI i))]) hx hb dL_law_1044 hl (by decide) rfl (fun ls hl => ?_)
  have hM1 : RM E σ th r (arN ar H.size) h1 := (hM.keep (hpr r (Or.inr (Or.inl rfl)) hou.1.symm) (fun k hk ha => hpr (ar k) (Or.inr (Or.inr ⟨k, hk, ha, rfl⟩)) (hou.2 k hk ha).symm)).re (fun b e he => I.lt b e he)
  have hB1 : ∀ b e, h1 b = some e → b < H.size := fun b e he => I.lt b e he
  refine lv_aload_n hx hb dL_law_1046 rfl (lv_at hl 3 rfl) ?_
  refine lv_aload_n hx hb dL_law_1047 rfl (lv_at hl 1 rfl) ?_
  refine lv_iload hx hb dL_law_1048 (lv_at hl 5 rfl) ?_
  refine lv_iconst (v := nI 1) hx hb dL_law_1050 (by decide) ?_
  refine lv_iadd hx hb dL_law_1051 ?_
  refine va_sld hx hb hX hbl hbA hS v1 dL_law_1052 ?_
  refine xtop e1 ?_
  refine lv_aload_n hx hb dL_law_1053 rfl (lv_at hl 1 rfl) ?_
  refine lv_iload hx hb dL_law_1054 (lv_at hl 5 rfl) ?_
  refine lv_iconst (v := nI 2) hx hb dL_law_1056 (by decide) ?_
  refine lv_iadd hx hb dL_law_1057 ?_
  refine va_sld hx hb hX hbl hbA hS v2 dL_law_1058 ?_
  refine xtop e2 ?_
  refine xcvQ (As := [.int a1, .int a2]) (rest := []) ⟨hx, hb, hml, hown, hts⟩ (mX8_estimate l s.heap.size D E h1 σ th r (arN ar H.size) hM1 hMW a1 a2) (cwV 2 hts gL_law_X8_estimate rfl rfl rfl (by decide +kernel) ⟨Nat.le_of_ble_eq_true rfl, Nat.le_of_ble_eq_true rfl⟩) I hS hM1.1 rfl rfl hl.1 rfl (Nat.le_of_ble_eq_true rfl) dL_law_1059 ⟨show cells + 3 + 0 ≤ 601024 by omega, show slots + 18 + 0 ≤ 7293034 by omega⟩ (fun v9 h2 H2 locs q9 I hS => ?_)
  obtain ⟨rfl, hM2, hF2⟩ := q9
  obtain ⟨ho2, hLI⟩ := l_next hR1 h00 hM2 hB1 hF2 hou ho1 hRel1 hW1
  obtain ⟨f1, ef1⟩ : ∃ y, y = (fX8_estimate σ th a1 a2).1 := ⟨_, rfl⟩
  refine W.eq (g2 := F0 m 1062 ls [.int (fX8_estimate σ th a1 a2).1]) rfl ?_
  refine xtop (show Value.int (fX8_estimate σ th a1 a2).1 = .int f1 by rw [ef1]) ?_
  refine lv_istore (lv' := [(6, .int f1), (5, .int k1), (0, .ref b), (1, .ref (ad 0 0)), (2, .ref r), (3, .ref ou), (4, .int (nI i))]) hx hb dL_law_1062 hl (by decide) rfl (fun ls hl => ?_)
  refine lv_aload_n hx hb dL_law_1064 rfl (lv_at hl 4 rfl) ?_
  refine xcvR (As := ([] : List Value)) (rest := []) ⟨hx, hb, hml, hown, hts⟩ (mX8_thrown l s.heap.size D E h2 _ _ r _ hM2 (hRel1.MW hW1)) (cwV 0 hts gL_law_X8_thrown rfl rfl rfl (by decide +kernel) ⟨Nat.le_of_ble_eq_true rfl, Nat.le_of_ble_eq_true rfl⟩) I hM2.1 rfl rfl hl.1 rfl (Nat.le_of_ble_eq_true rfl) dL_law_1065 ⟨show cells + 3 + 0 + 0 ≤ 601024 by omega, show slots + 18 + 0 + 0 ≤ 7293034 by omega⟩ ?_
  refine W.eq (g2 := F0 m 1068 ls [.int (fX8_estimate σ th a1 a2).2.2]) rfl ?_
  refine xtop (show Value.int (fX8_estimate σ th a1 a2).2.2 = .int k1 by rw [ek1]) ?_
  refine lv_iload hx hb dL_law_1068 (lv_at hl 1 rfl) ?_
  refine lv_icmp_eq (tgt := 1075) hx hb dL_law_1070 (by decide) (fun c1 => ?_) (fun c1 => absurd rfl c1)
  refine lv_iload hx hb dL_law_1075 (lv_at hl 1 rfl) ?_
  refine lv_if_ne (tgt := 1092) hx hb dL_law_1077 (by decide) (fun c2 => ?_) (fun c2 => ?_)
  · refine lv_goto (tgt := 2238) hx hb dL_law_1092 (by decide) ?_
    exact W.widen (by omega) (by omega) (kk _ _ _ _ hLI I hS (lv_sub hl [2, 3, 4, 5, 6] rfl))
  · have hk0 : (fX8_estimate σ th a1 a2).2.2 = nI 0 := by rw [← ek1]; exact c2
    have hval : fo1 0 = (fX8_estimate σ th a1 a2).1.toInt64 := hans hk0 _ rfl
    refine lv_aload_n hx hb dL_law_1080 rfl (lv_at hl 5 rfl) ?_
    refine lv_iconst (v := nI 0) hx hb dL_law_1081 (by decide) ?_
    refine xlald (i := 0) (n := 1) hx hb I ho2 (by decide) (by decide) dL_law_1082 ?_
    refine lv_iload hx hb dL_law_1083 (lv_at hl 0 rfl) ?_
    refine lv_i2l (v := f1.toInt64) hx hb dL_law_1085 rfl ?_
    refine xl_eq (tgt := 1092) hx hb dL_law_1086 dL_law_1087 (by decide) (fun _ => ?_) (fun z => absurd (by rw [hval, ef1]) z)
    refine lv_goto (tgt := 2238) hx hb dL_law_1092 (by decide) ?_
    exact W.widen (by omega) (by omega) (kk _ _ _ _ hLI I hS (lv_sub hl [2, 3, 4, 5, 6] rfl))
set_option maxHeartbeats 4000000 in
set_option maxRecDepth 100000 in
theorem lc_settle {p : Program} {l : Launch} {e : Env} {s : State} {m : MethodId} {below : List Frame} {meth : Method} {c : Code} {b L : Nat} {xs : Nat → Int32} {Q : State → Prop} {D : va_G} {E : Nat → ClassId} {h : XW} {H : Heap} {locs : List Loc} {cells slots X r ou i : Nat} {ls : Array Slot} (F : LF p l s m c b L xs) (hI : LI E X r ou h) (I : XI s.heap.size D E h s H) (hS : va_S (xA s.heap.size) s.heap H locs) (hcs : cells + 9 ≤ 601024 ∧ slots + 65 ≤ 7293034) (hi : i + 6 ≤ L) (hL : L ≤ 3072) (hl : lv_has ls 8 [(0, .ref b), (1, .ref X), (2, .ref r), (3, .ref ou), (4, .int (nI i))])
    (kk : ∀ (h2 : XW) (H2 : Heap) (locs2 : List Loc) (ls2 : Array Slot), LI E X r ou h2 → XI s.heap.size D E h2 s H2 → va_S (xA s.heap.size) s.heap H2 locs2 → lv_has ls2 8 [(0, .ref b), (1, .ref X), (2, .ref r), (3, .ref ou), (4, .int (nI i))] → W p l e room_1 s m #[Value.ref b] below meth c H2 locs2 (cells + 9) (slots + 65) Q (F0 m 2238 ls2 [])) : W p l e room_1 s m #[Value.ref b] below meth c H locs cells slots Q (F0 m 1095 ls []) := by
  obtain ⟨hx, hb, hml, hown, hts, hX, hbl, hCa, hlst⟩ := F
  obtain ⟨σ, τ, th, ad, fa, ar, fo, hR, rfl, hM, hou, ho, hRel, hW⟩ := hI
  have hMW := hRel.MW hW
  have hbA : ¬ xA s.heap.size b := Nat.not_le.mpr hbl
  have v1 : vp_in (nI i + nI 1) L := by rw [nI_add]; exact vp_in_nI (by omega) (by omega)
  obtain ⟨a1, ea1⟩ : ∃ y : Int32, y = xs (nI i + nI 1).toNatClampNeg := ⟨_, rfl⟩
  have e1 : Value.int (xs (nI i + nI 1).toNatClampNeg) = .int a1 := by rw [ea1]
  have v2 : vp_in (nI i + nI 2) L := by rw [nI_add]; exact vp_in_nI (by omega) (by omega)
  obtain ⟨a2, ea2⟩ : ∃ y : Int32, y = xs (nI i + nI 2).toNatClampNeg := ⟨_, rfl⟩
  have e2 : Value.int (xs (nI i + nI 2).toNatClampNeg) = .int a2 := by rw [ea2]
  by_cases hz : a2 = 0
  · have q := q_settle hRel hW th a1 (nI 0)
    refine lv_aload_n hx hb dL_law_1095 rfl (lv_at hl 1 rfl) ?_
    refine lv_aload_n hx hb dL_law_1096 rfl (lv_at hl 0 rfl) ?_
    refine lv_iload hx hb dL_law_1097 (lv_at hl 4 rfl) ?_
    refine lv_iconst (v := nI 1) hx hb dL_law_1099 (by decide) ?_
    refine lv_iadd hx hb dL_law_1100 ?_
    refine va_sld hx hb hX hbl hbA hS v1 dL_law_1101 ?_
    refine xtop e1 ?_
    refine lv_aload_n hx hb dL_law_1102 rfl (lv_at hl 0 rfl) ?_
    refine lv_iload hx hb dL_law_1103 (lv_at hl 4 rfl) ?_
    refine lv_iconst (v := nI 2) hx hb dL_law_1105 (by decide) ?_
    refine lv_iadd hx hb dL_law_1106 ?_
    refine va_sld hx hb hX hbl hbA hS v2 dL_law_1107 ?_
    refine xtop e2 ?_
    refine lv_if_eq (tgt := 1115) hx hb dL_law_1108 (by decide) (fun _ => ?_) (fun z => absurd hz z)
    refine lv_iconst (v := nI 0) hx hb dL_law_1115 (by decide) ?_
    refine xcsW (As := [.ref (ad 0 0), .int a1, .int (nI 0)]) (rest := []) ⟨hx, hb, hml, hown, hts⟩ (mL_settle l s.heap.size D E h hlst (lPr r ou ar) τ ad fa hR hW ou fo (Or.inl rfl) ho a1 (nI 0) (Or.inl rfl) (hE2 q)) (vx_cwSW 3 hts gL_law_L_settle rfl rfl rfl (by decide +kernel) ⟨Nat.le_of_ble_eq_true rfl, Nat.le_of_ble_eq_true rfl⟩) I hCa hS rfl hl.1 rfl (Nat.le_of_ble_eq_true rfl) dL_law_1116 ⟨show cells + 2 ≤ 601024 by omega, show slots + 12 ≤ 7293034 by omega⟩ (fun v9 h1 H locs q9 I hS => ?_)
    obtain ⟨rfl, τ1, ad1, fa1, fo1, hRel1, hW1, hR1, h00, hpr, ho1, hans⟩ := l_post (by decide) hR rfl hW ho q q9
    obtain ⟨k1, ek1⟩ : ∃ y, y = (fX8_settle σ th a1 (nI 0)).2 := ⟨_, rfl⟩
    refine W.eq (g2 := F0 m 1119 ls [.int (fX8_settle σ th a1 (nI 0)).2]) rfl ?_
    refine xtop (show Value.int (fX8_settle σ th a1 (nI 0)).2 = .int k1 by rw [ek1]) ?_
    refine lv_istore (lv' := [(5, .int k1), (0, .ref b), (1, .ref (ad 0 0)), (2, .ref r), (3, .ref ou), (4, .int (nI i))]) hx hb dL_law_1119 hl (by decide) rfl (fun ls hl => ?_)
    have hM1 : RM E σ th r (arN ar H.size) h1 := (hM.keep (hpr r (Or.inr (Or.inl rfl)) hou.1.symm) (fun k hk ha => hpr (ar k) (Or.inr (Or.inr ⟨k, hk, ha, rfl⟩)) (hou.2 k hk ha).symm)).re (fun b e he => I.lt b e he)
    have hB1 : ∀ b e, h1 b = some e → b < H.size := fun b e he => I.lt b e he
    refine lv_aload_n hx hb dL_law_1121 rfl (lv_at hl 3 rfl) ?_
    refine lv_aload_n hx hb dL_law_1122 rfl (lv_at hl 1 rfl) ?_
    refine lv_iload hx hb dL_law_1123 (lv_at hl 5 rfl) ?_
    refine lv_iconst (v := nI 1) hx hb dL_law_1125 (by decide) ?_
    refine lv_iadd hx hb dL_law_1126 ?_
    refine va_sld hx hb hX hbl hbA hS v1 dL_law_1127 ?_
    refine xtop e1 ?_
    refine lv_aload_n hx hb dL_law_1128 rfl (lv_at hl 1 rfl) ?_
    refine lv_iload hx hb dL_law_1129 (lv_at hl 5 rfl) ?_
    refine lv_iconst (v := nI 2) hx hb dL_law_1131 (by decide) ?_
    refine lv_iadd hx hb dL_law_1132 ?_
    refine va_sld hx hb hX hbl hbA hS v2 dL_law_1133 ?_
    refine xtop e2 ?_
    refine lv_if_eq (tgt := 1141) hx hb dL_law_1134 (by decide) (fun _ => ?_) (fun z => absurd hz z)
    refine lv_iconst (v := nI 0) hx hb dL_law_1141 (by decide) ?_
    refine xcvQ (As := [.int a1, .int (nI 0)]) (rest := []) ⟨hx, hb, hml, hown, hts⟩ (mX8_settle l s.heap.size D E h1 σ th r (arN ar H.size) hM1 hMW a1 (nI 0) (Or.inl rfl)) (cwV 2 hts gL_law_X8_settle rfl rfl rfl (by decide +kernel) ⟨Nat.le_of_ble_eq_true rfl, Nat.le_of_ble_eq_true rfl⟩) I hS hM1.1 rfl rfl hl.1 rfl (Nat.le_of_ble_eq_true rfl) dL_law_1142 ⟨show cells + 2 + 0 ≤ 601024 by omega, show slots + 12 + 0 ≤ 7293034 by omega⟩ (fun v9 h2 H2 locs q9 I hS => ?_)
    obtain ⟨rfl, hM2, hF2⟩ := q9
    obtain ⟨ho2, hLI⟩ := l_next hR1 h00 hM2 hB1 hF2 hou ho1 hRel1 hW1
    refine W.eq (g2 := F0 m 1145 ls []) rfl ?_
    refine lv_aload_n hx hb dL_law_1145 rfl (lv_at hl 3 rfl) ?_
    refine xcvR (As := ([] : List Value)) (rest := []) ⟨hx, hb, hml, hown, hts⟩ (mX8_thrown l s.heap.size D E h2 _ _ r _ hM2 (hRel1.MW hW1)) (cwV 0 hts gL_law_X8_thrown rfl rfl rfl (by decide +kernel) ⟨Nat.le_of_ble_eq_true rfl, Nat.le_of_ble_eq_true rfl⟩) I hM2.1 rfl rfl hl.1 rfl (Nat.le_of_ble_eq_true rfl) dL_law_1146 ⟨show cells + 2 + 0 + 0 ≤ 601024 by omega, show slots + 12 + 0 + 0 ≤ 7293034 by omega⟩ ?_
    refine W.eq (g2 := F0 m 1149 ls [.int (fX8_settle σ th a1 (nI 0)).2]) rfl ?_
    refine xtop (show Value.int (fX8_settle σ th a1 (nI 0)).2 = .int k1 by rw [ek1]) ?_
    refine lv_iload hx hb dL_law_1149 (lv_at hl 0 rfl) ?_
    refine lv_icmp_eq (tgt := 1156) hx hb dL_law_1151 (by decide) (fun c1 => ?_) (fun c1 => absurd rfl c1)
    refine lv_goto (tgt := 2238) hx hb dL_law_1156 (by decide) ?_
    exact W.widen (by omega) (by omega) (kk _ _ _ _ hLI I hS (lv_sub hl [1, 2, 3, 4, 5] rfl))
  · have q := q_settle hRel hW th a1 (nI 1)
    refine lv_aload_n hx hb dL_law_1095 rfl (lv_at hl 1 rfl) ?_
    refine lv_aload_n hx hb dL_law_1096 rfl (lv_at hl 0 rfl) ?_
    refine lv_iload hx hb dL_law_1097 (lv_at hl 4 rfl) ?_
    refine lv_iconst (v := nI 1) hx hb dL_law_1099 (by decide) ?_
    refine lv_iadd hx hb dL_law_1100 ?_
    refine va_sld hx hb hX hbl hbA hS v1 dL_law_1101 ?_
    refine xtop e1 ?_
    refine lv_aload_n hx hb dL_law_1102 rfl (lv_at hl 0 rfl) ?_
    refine lv_iload hx hb dL_law_1103 (lv_at hl 4 rfl) ?_
    refine lv_iconst (v := nI 2) hx hb dL_law_1105 (by decide) ?_
    refine lv_iadd hx hb dL_law_1106 ?_
    refine va_sld hx hb hX hbl hbA hS v2 dL_law_1107 ?_
    refine xtop e2 ?_
    refine lv_if_eq (tgt := 1115) hx hb dL_law_1108 (by decide) (fun z => absurd z hz) (fun _ => ?_)
    refine lv_iconst (v := nI 1) hx hb dL_law_1111 (by decide) ?_
    refine lv_goto (tgt := 1116) hx hb dL_law_1112 (by decide) ?_
    refine xcsW (As := [.ref (ad 0 0), .int a1, .int (nI 1)]) (rest := []) ⟨hx, hb, hml, hown, hts⟩ (mL_settle l s.heap.size D E h hlst (lPr r ou ar) τ ad fa hR hW ou fo (Or.inl rfl) ho a1 (nI 1) (Or.inr rfl) (hE2 q)) (vx_cwSW 3 hts gL_law_L_settle rfl rfl rfl (by decide +kernel) ⟨Nat.le_of_ble_eq_true rfl, Nat.le_of_ble_eq_true rfl⟩) I hCa hS rfl hl.1 rfl (Nat.le_of_ble_eq_true rfl) dL_law_1116 ⟨show cells + 2 ≤ 601024 by omega, show slots + 12 ≤ 7293034 by omega⟩ (fun v9 h1 H locs q9 I hS => ?_)
    obtain ⟨rfl, τ1, ad1, fa1, fo1, hRel1, hW1, hR1, h00, hpr, ho1, hans⟩ := l_post (by decide) hR rfl hW ho q q9
    obtain ⟨k1, ek1⟩ : ∃ y, y = (fX8_settle σ th a1 (nI 1)).2 := ⟨_, rfl⟩
    refine W.eq (g2 := F0 m 1119 ls [.int (fX8_settle σ th a1 (nI 1)).2]) rfl ?_
    refine xtop (show Value.int (fX8_settle σ th a1 (nI 1)).2 = .int k1 by rw [ek1]) ?_
    refine lv_istore (lv' := [(5, .int k1), (0, .ref b), (1, .ref (ad 0 0)), (2, .ref r), (3, .ref ou), (4, .int (nI i))]) hx hb dL_law_1119 hl (by decide) rfl (fun ls hl => ?_)
    have hM1 : RM E σ th r (arN ar H.size) h1 := (hM.keep (hpr r (Or.inr (Or.inl rfl)) hou.1.symm) (fun k hk ha => hpr (ar k) (Or.inr (Or.inr ⟨k, hk, ha, rfl⟩)) (hou.2 k hk ha).symm)).re (fun b e he => I.lt b e he)
    have hB1 : ∀ b e, h1 b = some e → b < H.size := fun b e he => I.lt b e he
    refine lv_aload_n hx hb dL_law_1121 rfl (lv_at hl 3 rfl) ?_
    refine lv_aload_n hx hb dL_law_1122 rfl (lv_at hl 1 rfl) ?_
    refine lv_iload hx hb dL_law_1123 (lv_at hl 5 rfl) ?_
    refine lv_iconst (v := nI 1) hx hb dL_law_1125 (by decide) ?_
    refine lv_iadd hx hb dL_law_1126 ?_
    refine va_sld hx hb hX hbl hbA hS v1 dL_law_1127 ?_
    refine xtop e1 ?_
    refine lv_aload_n hx hb dL_law_1128 rfl (lv_at hl 1 rfl) ?_
    refine lv_iload hx hb dL_law_1129 (lv_at hl 5 rfl) ?_
    refine lv_iconst (v := nI 2) hx hb dL_law_1131 (by decide) ?_
    refine lv_iadd hx hb dL_law_1132 ?_
    refine va_sld hx hb hX hbl hbA hS v2 dL_law_1133 ?_
    refine xtop e2 ?_
    refine lv_if_eq (tgt := 1141) hx hb dL_law_1134 (by decide) (fun z => absurd z hz) (fun _ => ?_)
    refine lv_iconst (v := nI 1) hx hb dL_law_1137 (by decide) ?_
    refine lv_goto (tgt := 1142) hx hb dL_law_1138 (by decide) ?_
    refine xcvQ (As := [.int a1, .int (nI 1)]) (rest := []) ⟨hx, hb, hml, hown, hts⟩ (mX8_settle l s.heap.size D E h1 σ th r (arN ar H.size) hM1 hMW a1 (nI 1) (Or.inr rfl)) (cwV 2 hts gL_law_X8_settle rfl rfl rfl (by decide +kernel) ⟨Nat.le_of_ble_eq_true rfl, Nat.le_of_ble_eq_true rfl⟩) I hS hM1.1 rfl rfl hl.1 rfl (Nat.le_of_ble_eq_true rfl) dL_law_1142 ⟨show cells + 2 + 0 ≤ 601024 by omega, show slots + 12 + 0 ≤ 7293034 by omega⟩ (fun v9 h2 H2 locs q9 I hS => ?_)
    obtain ⟨rfl, hM2, hF2⟩ := q9
    obtain ⟨ho2, hLI⟩ := l_next hR1 h00 hM2 hB1 hF2 hou ho1 hRel1 hW1
    refine W.eq (g2 := F0 m 1145 ls []) rfl ?_
    refine lv_aload_n hx hb dL_law_1145 rfl (lv_at hl 3 rfl) ?_
    refine xcvR (As := ([] : List Value)) (rest := []) ⟨hx, hb, hml, hown, hts⟩ (mX8_thrown l s.heap.size D E h2 _ _ r _ hM2 (hRel1.MW hW1)) (cwV 0 hts gL_law_X8_thrown rfl rfl rfl (by decide +kernel) ⟨Nat.le_of_ble_eq_true rfl, Nat.le_of_ble_eq_true rfl⟩) I hM2.1 rfl rfl hl.1 rfl (Nat.le_of_ble_eq_true rfl) dL_law_1146 ⟨show cells + 2 + 0 + 0 ≤ 601024 by omega, show slots + 12 + 0 + 0 ≤ 7293034 by omega⟩ ?_
    refine W.eq (g2 := F0 m 1149 ls [.int (fX8_settle σ th a1 (nI 1)).2]) rfl ?_
    refine xtop (show Value.int (fX8_settle σ th a1 (nI 1)).2 = .int k1 by rw [ek1]) ?_
    refine lv_iload hx hb dL_law_1149 (lv_at hl 0 rfl) ?_
    refine lv_icmp_eq (tgt := 1156) hx hb dL_law_1151 (by decide) (fun c1 => ?_) (fun c1 => absurd rfl c1)
    refine lv_goto (tgt := 2238) hx hb dL_law_1156 (by decide) ?_
    exact W.widen (by omega) (by omega) (kk _ _ _ _ hLI I hS (lv_sub hl [1, 2, 3, 4, 5] rfl))
set_option maxHeartbeats 4000000 in
set_option maxRecDepth 100000 in
theorem lc_broken {p : Program} {l : Launch} {e : Env} {s : State} {m : MethodId} {below : List Frame} {meth : Method} {c : Code} {b L : Nat} {xs : Nat → Int32} {Q : State → Prop} {D : va_G} {E : Nat → ClassId} {h : XW} {H : Heap} {locs : List Loc} {cells slots X r ou i : Nat} {ls : Array Slot} (F : LF p l s m c b L xs) (hI : LI E X r ou h) (I : XI s.heap.size D E h s H) (hS : va_S (xA s.heap.size) s.heap H locs) (hcs : cells + 9 ≤ 601024 ∧ slots + 65 ≤ 7293034) (hi : i + 6 ≤ L) (hL : L ≤ 3072) (hl : lv_has ls 8 [(0, .ref b), (1, .ref X), (2, .ref r), (3, .ref ou), (4, .int (nI i))])
    (kk : ∀ (h2 : XW) (H2 : Heap) (locs2 : List Loc) (ls2 : Array Slot), LI E X r ou h2 → XI s.heap.size D E h2 s H2 → va_S (xA s.heap.size) s.heap H2 locs2 → lv_has ls2 8 [(0, .ref b), (1, .ref X), (2, .ref r), (3, .ref ou), (4, .int (nI i))] → W p l e room_1 s m #[Value.ref b] below meth c H2 locs2 (cells + 9) (slots + 65) Q (F0 m 2238 ls2 [])) : W p l e room_1 s m #[Value.ref b] below meth c H locs cells slots Q (F0 m 1159 ls []) := by
  obtain ⟨hx, hb, hml, hown, hts, hX, hbl, hCa, hlst⟩ := F
  obtain ⟨σ, τ, th, ad, fa, ar, fo, hR, rfl, hM, hou, ho, hRel, hW⟩ := hI
  have hMW := hRel.MW hW
  have hbA : ¬ xA s.heap.size b := Nat.not_le.mpr hbl
  have v1 : vp_in (nI i + nI 1) L := by rw [nI_add]; exact vp_in_nI (by omega) (by omega)
  obtain ⟨a1, ea1⟩ : ∃ y : Int32, y = xs (nI i + nI 1).toNatClampNeg := ⟨_, rfl⟩
  have e1 : Value.int (xs (nI i + nI 1).toNatClampNeg) = .int a1 := by rw [ea1]
  have q := q_broken hRel hW th a1
  refine lv_aload_n hx hb dL_law_1159 rfl (lv_at hl 1 rfl) ?_
  refine lv_aload_n hx hb dL_law_1160 rfl (lv_at hl 0 rfl) ?_
  refine lv_iload hx hb dL_law_1161 (lv_at hl 4 rfl) ?_
  refine lv_iconst (v := nI 1) hx hb dL_law_1163 (by decide) ?_
  refine lv_iadd hx hb dL_law_1164 ?_
  refine va_sld hx hb hX hbl hbA hS v1 dL_law_1165 ?_
  refine xtop e1 ?_
  refine xcsW (As := [.ref (ad 0 0), .int a1]) (rest := []) ⟨hx, hb, hml, hown, hts⟩ (mL_broken l s.heap.size D E h hlst (lPr r ou ar) τ ad fa hR hW ou fo (Or.inl rfl) ho a1 (hE2 q)) (vx_cwSW 2 hts gL_law_L_broken rfl rfl rfl (by decide +kernel) ⟨Nat.le_of_ble_eq_true rfl, Nat.le_of_ble_eq_true rfl⟩) I hCa hS rfl hl.1 rfl (Nat.le_of_ble_eq_true rfl) dL_law_1166 ⟨show cells + 3 ≤ 601024 by omega, show slots + 18 ≤ 7293034 by omega⟩ (fun v9 h1 H locs q9 I hS => ?_)
  obtain ⟨rfl, τ1, ad1, fa1, fo1, hRel1, hW1, hR1, h00, hpr, ho1, hans⟩ := l_post (by decide) hR rfl hW ho q q9
  obtain ⟨k1, ek1⟩ : ∃ y, y = (fX8_broken σ th a1).2 := ⟨_, rfl⟩
  refine W.eq (g2 := F0 m 1169 ls [.int (fX8_broken σ th a1).2]) rfl ?_
  refine xtop (show Value.int (fX8_broken σ th a1).2 = .int k1 by rw [ek1]) ?_
  refine lv_istore (lv' := [(5, .int k1), (0, .ref b), (1, .ref (ad 0 0)), (2, .ref r), (3, .ref ou), (4, .int (nI i))]) hx hb dL_law_1169 hl (by decide) rfl (fun ls hl => ?_)
  have hM1 : RM E σ th r (arN ar H.size) h1 := (hM.keep (hpr r (Or.inr (Or.inl rfl)) hou.1.symm) (fun k hk ha => hpr (ar k) (Or.inr (Or.inr ⟨k, hk, ha, rfl⟩)) (hou.2 k hk ha).symm)).re (fun b e he => I.lt b e he)
  have hB1 : ∀ b e, h1 b = some e → b < H.size := fun b e he => I.lt b e he
  refine lv_aload_n hx hb dL_law_1171 rfl (lv_at hl 3 rfl) ?_
  refine lv_aload_n hx hb dL_law_1172 rfl (lv_at hl 1 rfl) ?_
  refine lv_iload hx hb dL_law_1173 (lv_at hl 5 rfl) ?_
  refine lv_iconst (v := nI 1) hx hb dL_law_1175 (by decide) ?_
  refine lv_iadd hx hb dL_law_1176 ?_
  refine va_sld hx hb hX hbl hbA hS v1 dL_law_1177 ?_
  refine xtop e1 ?_
  refine xcvQ (As := [.int a1]) (rest := []) ⟨hx, hb, hml, hown, hts⟩ (mX8_broken l s.heap.size D E h1 σ th r (arN ar H.size) hM1 hMW a1) (cwV 1 hts gL_law_X8_broken rfl rfl rfl (by decide +kernel) ⟨Nat.le_of_ble_eq_true rfl, Nat.le_of_ble_eq_true rfl⟩) I hS hM1.1 rfl rfl hl.1 rfl (Nat.le_of_ble_eq_true rfl) dL_law_1178 ⟨show cells + 3 + 0 ≤ 601024 by omega, show slots + 18 + 0 ≤ 7293034 by omega⟩ (fun v9 h2 H2 locs q9 I hS => ?_)
  obtain ⟨rfl, hM2, hF2⟩ := q9
  obtain ⟨ho2, hLI⟩ := l_next hR1 h00 hM2 hB1 hF2 hou ho1 hRel1 hW1
  refine W.eq (g2 := F0 m 1181 ls []) rfl ?_
  refine lv_aload_n hx hb dL_law_1181 rfl (lv_at hl 3 rfl) ?_
  refine xcvR (As := ([] : List Value)) (rest := []) ⟨hx, hb, hml, hown, hts⟩ (mX8_thrown l s.heap.size D E h2 _ _ r _ hM2 (hRel1.MW hW1)) (cwV 0 hts gL_law_X8_thrown rfl rfl rfl (by decide +kernel) ⟨Nat.le_of_ble_eq_true rfl, Nat.le_of_ble_eq_true rfl⟩) I hM2.1 rfl rfl hl.1 rfl (Nat.le_of_ble_eq_true rfl) dL_law_1182 ⟨show cells + 3 + 0 + 0 ≤ 601024 by omega, show slots + 18 + 0 + 0 ≤ 7293034 by omega⟩ ?_
  refine W.eq (g2 := F0 m 1185 ls [.int (fX8_broken σ th a1).2]) rfl ?_
  refine xtop (show Value.int (fX8_broken σ th a1).2 = .int k1 by rw [ek1]) ?_
  refine lv_iload hx hb dL_law_1185 (lv_at hl 0 rfl) ?_
  refine lv_icmp_eq (tgt := 1192) hx hb dL_law_1187 (by decide) (fun c1 => ?_) (fun c1 => absurd rfl c1)
  refine lv_goto (tgt := 2238) hx hb dL_law_1192 (by decide) ?_
  exact W.widen (by omega) (by omega) (kk _ _ _ _ hLI I hS (lv_sub hl [1, 2, 3, 4, 5] rfl))
set_option maxHeartbeats 4000000 in
set_option maxRecDepth 100000 in
theorem lc_ofClaim {p : Program} {l : Launch} {e : Env} {s : State} {m : MethodId} {below : List Frame} {meth : Method} {c : Code} {b L : Nat} {xs : Nat → Int32} {Q : State → Prop} {D : va_G} {E : Nat → ClassId} {h : XW} {H : Heap} {locs : List Loc} {cells slots X r ou i : Nat} {ls : Array Slot} (F : LF p l s m c b L xs) (hI : LI E X r ou h) (I : XI s.heap.size D E h s H) (hS : va_S (xA s.heap.size) s.heap H locs) (hcs : cells + 9 ≤ 601024 ∧ slots + 65 ≤ 7293034) (hi : i + 6 ≤ L) (hL : L ≤ 3072) (hl : lv_has ls 8 [(0, .ref b), (1, .ref X), (2, .ref r), (3, .ref ou), (4, .int (nI i))])
    (kk : ∀ (h2 : XW) (H2 : Heap) (locs2 : List Loc) (ls2 : Array Slot), LI E X r ou h2 → XI s.heap.size D E h2 s H2 → va_S (xA s.heap.size) s.heap H2 locs2 → lv_has ls2 8 [(0, .ref b), (1, .ref X), (2, .ref r), (3, .ref ou), (4, .int (nI i))] → W p l e room_1 s m #[Value.ref b] below meth c H2 locs2 (cells + 9) (slots + 65) Q (F0 m 2238 ls2 [])) : W p l e room_1 s m #[Value.ref b] below meth c H locs cells slots Q (F0 m 1195 ls []) := by
  obtain ⟨hx, hb, hml, hown, hts, hX, hbl, hCa, hlst⟩ := F
  obtain ⟨σ, τ, th, ad, fa, ar, fo, hR, rfl, hM, hou, ho, hRel, hW⟩ := hI
  have hMW := hRel.MW hW
  have hbA : ¬ xA s.heap.size b := Nat.not_le.mpr hbl
  have v1 : vp_in (nI i + nI 1) L := by rw [nI_add]; exact vp_in_nI (by omega) (by omega)
  obtain ⟨a1, ea1⟩ : ∃ y : Int32, y = xs (nI i + nI 1).toNatClampNeg := ⟨_, rfl⟩
  have e1 : Value.int (xs (nI i + nI 1).toNatClampNeg) = .int a1 := by rw [ea1]
  have v2 : vp_in (nI i + nI 2) L := by rw [nI_add]; exact vp_in_nI (by omega) (by omega)
  obtain ⟨a2, ea2⟩ : ∃ y : Int32, y = xs (nI i + nI 2).toNatClampNeg := ⟨_, rfl⟩
  have e2 : Value.int (xs (nI i + nI 2).toNatClampNeg) = .int a2 := by rw [ea2]
  have q := q_ofClaim hRel hW th a1 a2
  refine lv_aload_n hx hb dL_law_1195 rfl (lv_at hl 1 rfl) ?_
  refine lv_aload_n hx hb dL_law_1196 rfl (lv_at hl 0 rfl) ?_
  refine lv_iload hx hb dL_law_1197 (lv_at hl 4 rfl) ?_
  refine lv_iconst (v := nI 1) hx hb dL_law_1199 (by decide) ?_
  refine lv_iadd hx hb dL_law_1200 ?_
  refine va_sld hx hb hX hbl hbA hS v1 dL_law_1201 ?_
  refine xtop e1 ?_
  refine lv_aload_n hx hb dL_law_1202 rfl (lv_at hl 0 rfl) ?_
  refine lv_iload hx hb dL_law_1203 (lv_at hl 4 rfl) ?_
  refine lv_iconst (v := nI 2) hx hb dL_law_1205 (by decide) ?_
  refine lv_iadd hx hb dL_law_1206 ?_
  refine va_sld hx hb hX hbl hbA hS v2 dL_law_1207 ?_
  refine xtop e2 ?_
  refine lv_aload_n hx hb dL_law_1208 rfl (lv_at hl 3 rfl) ?_
  refine xcsW (As := [.ref (ad 0 0), .int a1, .int a2, .ref ou]) (rest := []) ⟨hx, hb, hml, hown, hts⟩ (mL_ofClaim l s.heap.size D E h hlst (lPr r ou ar) τ ad fa hR hW ou fo (Or.inl rfl) ho a1 a2 (hE2 q)) (vx_cwSW 4 hts gL_law_L_ofClaim rfl rfl rfl (by decide +kernel) ⟨Nat.le_of_ble_eq_true rfl, Nat.le_of_ble_eq_true rfl⟩) I hCa hS rfl hl.1 rfl (Nat.le_of_ble_eq_true rfl) dL_law_1209 ⟨show cells + 2 ≤ 601024 by omega, show slots + 12 ≤ 7293034 by omega⟩ (fun v9 h1 H locs q9 I hS => ?_)
  obtain ⟨rfl, τ1, ad1, fa1, fo1, hRel1, hW1, hR1, h00, hpr, ho1, hans⟩ := l_post (by decide) hR rfl hW ho q q9
  obtain ⟨k1, ek1⟩ : ∃ y, y = (fX8_ofClaim σ th a1 a2).2.2 := ⟨_, rfl⟩
  refine W.eq (g2 := F0 m 1212 ls [.int (fX8_ofClaim σ th a1 a2).2.2]) rfl ?_
  refine xtop (show Value.int (fX8_ofClaim σ th a1 a2).2.2 = .int k1 by rw [ek1]) ?_
  refine lv_istore (lv' := [(5, .int k1), (0, .ref b), (1, .ref (ad 0 0)), (2, .ref r), (3, .ref ou), (4, .int (nI i))]) hx hb dL_law_1212 hl (by decide) rfl (fun ls hl => ?_)
  have hM1 : RM E σ th r (arN ar H.size) h1 := (hM.keep (hpr r (Or.inr (Or.inl rfl)) hou.1.symm) (fun k hk ha => hpr (ar k) (Or.inr (Or.inr ⟨k, hk, ha, rfl⟩)) (hou.2 k hk ha).symm)).re (fun b e he => I.lt b e he)
  have hB1 : ∀ b e, h1 b = some e → b < H.size := fun b e he => I.lt b e he
  refine lv_aload_n hx hb dL_law_1214 rfl (lv_at hl 3 rfl) ?_
  refine lv_aload_n hx hb dL_law_1215 rfl (lv_at hl 1 rfl) ?_
  refine lv_iload hx hb dL_law_1216 (lv_at hl 5 rfl) ?_
  refine lv_iconst (v := nI 1) hx hb dL_law_1218 (by decide) ?_
  refine lv_iadd hx hb dL_law_1219 ?_
  refine va_sld hx hb hX hbl hbA hS v1 dL_law_1220 ?_
  refine xtop e1 ?_
  refine lv_aload_n hx hb dL_law_1221 rfl (lv_at hl 1 rfl) ?_
  refine lv_iload hx hb dL_law_1222 (lv_at hl 5 rfl) ?_
  refine lv_iconst (v := nI 2) hx hb dL_law_1224 (by decide) ?_
  refine lv_iadd hx hb dL_law_1225 ?_
  refine va_sld hx hb hX hbl hbA hS v2 dL_law_1226 ?_
  refine xtop e2 ?_
  refine xcvQ (As := [.int a1, .int a2]) (rest := []) ⟨hx, hb, hml, hown, hts⟩ (mX8_ofClaim l s.heap.size D E h1 σ th r (arN ar H.size) hM1 hMW a1 a2) (cwV 2 hts gL_law_X8_ofClaim rfl rfl rfl (by decide +kernel) ⟨Nat.le_of_ble_eq_true rfl, Nat.le_of_ble_eq_true rfl⟩) I hS hM1.1 rfl rfl hl.1 rfl (Nat.le_of_ble_eq_true rfl) dL_law_1227 ⟨show cells + 2 + 0 ≤ 601024 by omega, show slots + 12 + 0 ≤ 7293034 by omega⟩ (fun v9 h2 H2 locs q9 I hS => ?_)
  obtain ⟨rfl, hM2, hF2⟩ := q9
  obtain ⟨ho2, hLI⟩ := l_next hR1 h00 hM2 hB1 hF2 hou ho1 hRel1 hW1
  obtain ⟨f1, ef1⟩ : ∃ y, y = (fX8_ofClaim σ th a1 a2).1 := ⟨_, rfl⟩
  refine W.eq (g2 := F0 m 1230 ls [.long (fX8_ofClaim σ th a1 a2).1]) rfl ?_
  refine xtop (show Value.long (fX8_ofClaim σ th a1 a2).1 = .long f1 by rw [ef1]) ?_
  refine lv_lstore (lv' := [(6, .long f1), (5, .int k1), (0, .ref b), (1, .ref (ad 0 0)), (2, .ref r), (3, .ref ou), (4, .int (nI i))]) hx hb dL_law_1230 hl (by decide) rfl (fun ls hl => ?_)
  refine lv_aload_n hx hb dL_law_1232 rfl (lv_at hl 4 rfl) ?_
  refine xcvR (As := ([] : List Value)) (rest := []) ⟨hx, hb, hml, hown, hts⟩ (mX8_thrown l s.heap.size D E h2 _ _ r _ hM2 (hRel1.MW hW1)) (cwV 0 hts gL_law_X8_thrown rfl rfl rfl (by decide +kernel) ⟨Nat.le_of_ble_eq_true rfl, Nat.le_of_ble_eq_true rfl⟩) I hM2.1 rfl rfl hl.1 rfl (Nat.le_of_ble_eq_true rfl) dL_law_1233 ⟨show cells + 2 + 0 + 0 ≤ 601024 by omega, show slots + 12 + 0 + 0 ≤ 7293034 by omega⟩ ?_
  refine W.eq (g2 := F0 m 1236 ls [.int (fX8_ofClaim σ th a1 a2).2.2]) rfl ?_
  refine xtop (show Value.int (fX8_ofClaim σ th a1 a2).2.2 = .int k1 by rw [ek1]) ?_
  refine lv_iload hx hb dL_law_1236 (lv_at hl 1 rfl) ?_
  refine lv_icmp_eq (tgt := 1243) hx hb dL_law_1238 (by decide) (fun c1 => ?_) (fun c1 => absurd rfl c1)
  refine lv_iload hx hb dL_law_1243 (lv_at hl 1 rfl) ?_
  refine lv_if_ne (tgt := 1259) hx hb dL_law_1245 (by decide) (fun c2 => ?_) (fun c2 => ?_)
  · refine lv_goto (tgt := 2238) hx hb dL_law_1259 (by decide) ?_
    exact W.widen (by omega) (by omega) (kk _ _ _ _ hLI I hS (lv_sub hl [2, 3, 4, 5, 6] rfl))
  · have hk0 : (fX8_ofClaim σ th a1 a2).2.2 = nI 0 := by rw [← ek1]; exact c2
    have hval : fo1 0 = (fX8_ofClaim σ th a1 a2).1 := hans hk0 _ rfl
    refine lv_aload_n hx hb dL_law_1248 rfl (lv_at hl 5 rfl) ?_
    refine lv_iconst (v := nI 0) hx hb dL_law_1249 (by decide) ?_
    refine xlald (i := 0) (n := 1) hx hb I ho2 (by decide) (by decide) dL_law_1250 ?_
    refine lv_lload hx hb dL_law_1251 (lv_at hl 0 rfl) ?_
    refine xl_eq (tgt := 1259) hx hb dL_law_1253 dL_law_1254 (by decide) (fun _ => ?_) (fun z => absurd (by rw [hval, ef1]) z)
    refine lv_goto (tgt := 2238) hx hb dL_law_1259 (by decide) ?_
    exact W.widen (by omega) (by omega) (kk _ _ _ _ hLI I hS (lv_sub hl [2, 3, 4, 5, 6] rfl))
set_option maxHeartbeats 4000000 in
set_option maxRecDepth 100000 in
theorem lc_ofEvent {p : Program} {l : Launch} {e : Env} {s : State} {m : MethodId} {below : List Frame} {meth : Method} {c : Code} {b L : Nat} {xs : Nat → Int32} {Q : State → Prop} {D : va_G} {E : Nat → ClassId} {h : XW} {H : Heap} {locs : List Loc} {cells slots X r ou i : Nat} {ls : Array Slot} (F : LF p l s m c b L xs) (hI : LI E X r ou h) (I : XI s.heap.size D E h s H) (hS : va_S (xA s.heap.size) s.heap H locs) (hcs : cells + 9 ≤ 601024 ∧ slots + 65 ≤ 7293034) (hi : i + 6 ≤ L) (hL : L ≤ 3072) (hl : lv_has ls 8 [(0, .ref b), (1, .ref X), (2, .ref r), (3, .ref ou), (4, .int (nI i))])
    (kk : ∀ (h2 : XW) (H2 : Heap) (locs2 : List Loc) (ls2 : Array Slot), LI E X r ou h2 → XI s.heap.size D E h2 s H2 → va_S (xA s.heap.size) s.heap H2 locs2 → lv_has ls2 8 [(0, .ref b), (1, .ref X), (2, .ref r), (3, .ref ou), (4, .int (nI i))] → W p l e room_1 s m #[Value.ref b] below meth c H2 locs2 (cells + 9) (slots + 65) Q (F0 m 2238 ls2 [])) : W p l e room_1 s m #[Value.ref b] below meth c H locs cells slots Q (F0 m 1262 ls []) := by
  obtain ⟨hx, hb, hml, hown, hts, hX, hbl, hCa, hlst⟩ := F
  obtain ⟨σ, τ, th, ad, fa, ar, fo, hR, rfl, hM, hou, ho, hRel, hW⟩ := hI
  have hMW := hRel.MW hW
  have hbA : ¬ xA s.heap.size b := Nat.not_le.mpr hbl
  have v1 : vp_in (nI i + nI 1) L := by rw [nI_add]; exact vp_in_nI (by omega) (by omega)
  obtain ⟨a1, ea1⟩ : ∃ y : Int32, y = xs (nI i + nI 1).toNatClampNeg := ⟨_, rfl⟩
  have e1 : Value.int (xs (nI i + nI 1).toNatClampNeg) = .int a1 := by rw [ea1]
  have v2 : vp_in (nI i + nI 2) L := by rw [nI_add]; exact vp_in_nI (by omega) (by omega)
  obtain ⟨a2, ea2⟩ : ∃ y : Int32, y = xs (nI i + nI 2).toNatClampNeg := ⟨_, rfl⟩
  have e2 : Value.int (xs (nI i + nI 2).toNatClampNeg) = .int a2 := by rw [ea2]
  have q := q_ofEvent hRel hW th a1 a2
  refine lv_aload_n hx hb dL_law_1262 rfl (lv_at hl 1 rfl) ?_
  refine lv_aload_n hx hb dL_law_1263 rfl (lv_at hl 0 rfl) ?_
  refine lv_iload hx hb dL_law_1264 (lv_at hl 4 rfl) ?_
  refine lv_iconst (v := nI 1) hx hb dL_law_1266 (by decide) ?_
  refine lv_iadd hx hb dL_law_1267 ?_
  refine va_sld hx hb hX hbl hbA hS v1 dL_law_1268 ?_
  refine xtop e1 ?_
  refine lv_aload_n hx hb dL_law_1269 rfl (lv_at hl 0 rfl) ?_
  refine lv_iload hx hb dL_law_1270 (lv_at hl 4 rfl) ?_
  refine lv_iconst (v := nI 2) hx hb dL_law_1272 (by decide) ?_
  refine lv_iadd hx hb dL_law_1273 ?_
  refine va_sld hx hb hX hbl hbA hS v2 dL_law_1274 ?_
  refine xtop e2 ?_
  refine lv_aload_n hx hb dL_law_1275 rfl (lv_at hl 3 rfl) ?_
  refine xcsW (As := [.ref (ad 0 0), .int a1, .int a2, .ref ou]) (rest := []) ⟨hx, hb, hml, hown, hts⟩ (mL_ofEvent l s.heap.size D E h hlst (lPr r ou ar) τ ad fa hR hW ou fo (Or.inl rfl) ho a1 a2 (hE2 q)) (vx_cwSW 4 hts gL_law_L_ofEvent rfl rfl rfl (by decide +kernel) ⟨Nat.le_of_ble_eq_true rfl, Nat.le_of_ble_eq_true rfl⟩) I hCa hS rfl hl.1 rfl (Nat.le_of_ble_eq_true rfl) dL_law_1276 ⟨show cells + 2 ≤ 601024 by omega, show slots + 12 ≤ 7293034 by omega⟩ (fun v9 h1 H locs q9 I hS => ?_)
  obtain ⟨rfl, τ1, ad1, fa1, fo1, hRel1, hW1, hR1, h00, hpr, ho1, hans⟩ := l_post (by decide) hR rfl hW ho q q9
  obtain ⟨k1, ek1⟩ : ∃ y, y = (fX8_ofEvent σ th a1 a2).2.2 := ⟨_, rfl⟩
  refine W.eq (g2 := F0 m 1279 ls [.int (fX8_ofEvent σ th a1 a2).2.2]) rfl ?_
  refine xtop (show Value.int (fX8_ofEvent σ th a1 a2).2.2 = .int k1 by rw [ek1]) ?_
  refine lv_istore (lv' := [(5, .int k1), (0, .ref b), (1, .ref (ad 0 0)), (2, .ref r), (3, .ref ou), (4, .int (nI i))]) hx hb dL_law_1279 hl (by decide) rfl (fun ls hl => ?_)
  have hM1 : RM E σ th r (arN ar H.size) h1 := (hM.keep (hpr r (Or.inr (Or.inl rfl)) hou.1.symm) (fun k hk ha => hpr (ar k) (Or.inr (Or.inr ⟨k, hk, ha, rfl⟩)) (hou.2 k hk ha).symm)).re (fun b e he => I.lt b e he)
  have hB1 : ∀ b e, h1 b = some e → b < H.size := fun b e he => I.lt b e he
  refine lv_aload_n hx hb dL_law_1281 rfl (lv_at hl 3 rfl) ?_
  refine lv_aload_n hx hb dL_law_1282 rfl (lv_at hl 1 rfl) ?_
  refine lv_iload hx hb dL_law_1283 (lv_at hl 5 rfl) ?_
  refine lv_iconst (v := nI 1) hx hb dL_law_1285 (by decide) ?_
  refine lv_iadd hx hb dL_law_1286 ?_
  refine va_sld hx hb hX hbl hbA hS v1 dL_law_1287 ?_
  refine xtop e1 ?_
  refine lv_aload_n hx hb dL_law_1288 rfl (lv_at hl 1 rfl) ?_
  refine lv_iload hx hb dL_law_1289 (lv_at hl 5 rfl) ?_
  refine lv_iconst (v := nI 2) hx hb dL_law_1291 (by decide) ?_
  refine lv_iadd hx hb dL_law_1292 ?_
  refine va_sld hx hb hX hbl hbA hS v2 dL_law_1293 ?_
  refine xtop e2 ?_
  refine xcvQ (As := [.int a1, .int a2]) (rest := []) ⟨hx, hb, hml, hown, hts⟩ (mX8_ofEvent l s.heap.size D E h1 σ th r (arN ar H.size) hM1 hMW a1 a2) (cwV 2 hts gL_law_X8_ofEvent rfl rfl rfl (by decide +kernel) ⟨Nat.le_of_ble_eq_true rfl, Nat.le_of_ble_eq_true rfl⟩) I hS hM1.1 rfl rfl hl.1 rfl (Nat.le_of_ble_eq_true rfl) dL_law_1294 ⟨show cells + 2 + 0 ≤ 601024 by omega, show slots + 12 + 0 ≤ 7293034 by omega⟩ (fun v9 h2 H2 locs q9 I hS => ?_)
  obtain ⟨rfl, hM2, hF2⟩ := q9
  obtain ⟨ho2, hLI⟩ := l_next hR1 h00 hM2 hB1 hF2 hou ho1 hRel1 hW1
  obtain ⟨f1, ef1⟩ : ∃ y, y = (fX8_ofEvent σ th a1 a2).1 := ⟨_, rfl⟩
  refine W.eq (g2 := F0 m 1297 ls [.long (fX8_ofEvent σ th a1 a2).1]) rfl ?_
  refine xtop (show Value.long (fX8_ofEvent σ th a1 a2).1 = .long f1 by rw [ef1]) ?_
  refine lv_lstore (lv' := [(6, .long f1), (5, .int k1), (0, .ref b), (1, .ref (ad 0 0)), (2, .ref r), (3, .ref ou), (4, .int (nI i))]) hx hb dL_law_1297 hl (by decide) rfl (fun ls hl => ?_)
  refine lv_aload_n hx hb dL_law_1299 rfl (lv_at hl 4 rfl) ?_
  refine xcvR (As := ([] : List Value)) (rest := []) ⟨hx, hb, hml, hown, hts⟩ (mX8_thrown l s.heap.size D E h2 _ _ r _ hM2 (hRel1.MW hW1)) (cwV 0 hts gL_law_X8_thrown rfl rfl rfl (by decide +kernel) ⟨Nat.le_of_ble_eq_true rfl, Nat.le_of_ble_eq_true rfl⟩) I hM2.1 rfl rfl hl.1 rfl (Nat.le_of_ble_eq_true rfl) dL_law_1300 ⟨show cells + 2 + 0 + 0 ≤ 601024 by omega, show slots + 12 + 0 + 0 ≤ 7293034 by omega⟩ ?_
  refine W.eq (g2 := F0 m 1303 ls [.int (fX8_ofEvent σ th a1 a2).2.2]) rfl ?_
  refine xtop (show Value.int (fX8_ofEvent σ th a1 a2).2.2 = .int k1 by rw [ek1]) ?_
  refine lv_iload hx hb dL_law_1303 (lv_at hl 1 rfl) ?_
  refine lv_icmp_eq (tgt := 1310) hx hb dL_law_1305 (by decide) (fun c1 => ?_) (fun c1 => absurd rfl c1)
  refine lv_iload hx hb dL_law_1310 (lv_at hl 1 rfl) ?_
  refine lv_if_ne (tgt := 1326) hx hb dL_law_1312 (by decide) (fun c2 => ?_) (fun c2 => ?_)
  · refine lv_goto (tgt := 2238) hx hb dL_law_1326 (by decide) ?_
    exact W.widen (by omega) (by omega) (kk _ _ _ _ hLI I hS (lv_sub hl [2, 3, 4, 5, 6] rfl))
  · have hk0 : (fX8_ofEvent σ th a1 a2).2.2 = nI 0 := by rw [← ek1]; exact c2
    have hval : fo1 0 = (fX8_ofEvent σ th a1 a2).1 := hans hk0 _ rfl
    refine lv_aload_n hx hb dL_law_1315 rfl (lv_at hl 5 rfl) ?_
    refine lv_iconst (v := nI 0) hx hb dL_law_1316 (by decide) ?_
    refine xlald (i := 0) (n := 1) hx hb I ho2 (by decide) (by decide) dL_law_1317 ?_
    refine lv_lload hx hb dL_law_1318 (lv_at hl 0 rfl) ?_
    refine xl_eq (tgt := 1326) hx hb dL_law_1320 dL_law_1321 (by decide) (fun _ => ?_) (fun z => absurd (by rw [hval, ef1]) z)
    refine lv_goto (tgt := 2238) hx hb dL_law_1326 (by decide) ?_
    exact W.widen (by omega) (by omega) (kk _ _ _ _ hLI I hS (lv_sub hl [2, 3, 4, 5, 6] rfl))
set_option maxHeartbeats 4000000 in
set_option maxRecDepth 100000 in
theorem lc_cost {p : Program} {l : Launch} {e : Env} {s : State} {m : MethodId} {below : List Frame} {meth : Method} {c : Code} {b L : Nat} {xs : Nat → Int32} {Q : State → Prop} {D : va_G} {E : Nat → ClassId} {h : XW} {H : Heap} {locs : List Loc} {cells slots X r ou i : Nat} {ls : Array Slot} (F : LF p l s m c b L xs) (hI : LI E X r ou h) (I : XI s.heap.size D E h s H) (hS : va_S (xA s.heap.size) s.heap H locs) (hcs : cells + 9 ≤ 601024 ∧ slots + 65 ≤ 7293034) (hi : i + 6 ≤ L) (hL : L ≤ 3072) (hl : lv_has ls 8 [(0, .ref b), (1, .ref X), (2, .ref r), (3, .ref ou), (4, .int (nI i))])
    (kk : ∀ (h2 : XW) (H2 : Heap) (locs2 : List Loc) (ls2 : Array Slot), LI E X r ou h2 → XI s.heap.size D E h2 s H2 → va_S (xA s.heap.size) s.heap H2 locs2 → lv_has ls2 8 [(0, .ref b), (1, .ref X), (2, .ref r), (3, .ref ou), (4, .int (nI i))] → W p l e room_1 s m #[Value.ref b] below meth c H2 locs2 (cells + 9) (slots + 65) Q (F0 m 2238 ls2 [])) : W p l e room_1 s m #[Value.ref b] below meth c H locs cells slots Q (F0 m 1329 ls []) := by
  obtain ⟨hx, hb, hml, hown, hts, hX, hbl, hCa, hlst⟩ := F
  obtain ⟨σ, τ, th, ad, fa, ar, fo, hR, rfl, hM, hou, ho, hRel, hW⟩ := hI
  have hMW := hRel.MW hW
  have hbA : ¬ xA s.heap.size b := Nat.not_le.mpr hbl
  have v1 : vp_in (nI i + nI 1) L := by rw [nI_add]; exact vp_in_nI (by omega) (by omega)
  obtain ⟨a1, ea1⟩ : ∃ y : Int32, y = xs (nI i + nI 1).toNatClampNeg := ⟨_, rfl⟩
  have e1 : Value.int (xs (nI i + nI 1).toNatClampNeg) = .int a1 := by rw [ea1]
  have q := q_cost hRel hW th a1
  refine lv_aload_n hx hb dL_law_1329 rfl (lv_at hl 1 rfl) ?_
  refine lv_aload_n hx hb dL_law_1330 rfl (lv_at hl 0 rfl) ?_
  refine lv_iload hx hb dL_law_1331 (lv_at hl 4 rfl) ?_
  refine lv_iconst (v := nI 1) hx hb dL_law_1333 (by decide) ?_
  refine lv_iadd hx hb dL_law_1334 ?_
  refine va_sld hx hb hX hbl hbA hS v1 dL_law_1335 ?_
  refine xtop e1 ?_
  refine lv_aload_n hx hb dL_law_1336 rfl (lv_at hl 3 rfl) ?_
  refine xcsW (As := [.ref (ad 0 0), .int a1, .ref ou]) (rest := []) ⟨hx, hb, hml, hown, hts⟩ (mL_cost l s.heap.size D E h hlst (lPr r ou ar) τ ad fa hR hW ou fo (Or.inl rfl) ho a1 (hE1 q)) (vx_cwSW 3 hts gL_law_L_cost rfl rfl rfl (by decide +kernel) ⟨Nat.le_of_ble_eq_true rfl, Nat.le_of_ble_eq_true rfl⟩) I hCa hS rfl hl.1 rfl (Nat.le_of_ble_eq_true rfl) dL_law_1337 ⟨show cells + 1 ≤ 601024 by omega, show slots + 6 ≤ 7293034 by omega⟩ (fun v9 h1 H locs q9 I hS => ?_)
  obtain ⟨rfl, τ1, ad1, fa1, fo1, hRel1, hW1, hR1, h00, hpr, ho1, hans⟩ := l_post (by decide) hR rfl hW ho q q9
  obtain ⟨k1, ek1⟩ : ∃ y, y = (fX8_cost σ th a1).2.2 := ⟨_, rfl⟩
  refine W.eq (g2 := F0 m 1340 ls [.int (fX8_cost σ th a1).2.2]) rfl ?_
  refine xtop (show Value.int (fX8_cost σ th a1).2.2 = .int k1 by rw [ek1]) ?_
  refine lv_istore (lv' := [(5, .int k1), (0, .ref b), (1, .ref (ad 0 0)), (2, .ref r), (3, .ref ou), (4, .int (nI i))]) hx hb dL_law_1340 hl (by decide) rfl (fun ls hl => ?_)
  have hM1 : RM E σ th r (arN ar H.size) h1 := (hM.keep (hpr r (Or.inr (Or.inl rfl)) hou.1.symm) (fun k hk ha => hpr (ar k) (Or.inr (Or.inr ⟨k, hk, ha, rfl⟩)) (hou.2 k hk ha).symm)).re (fun b e he => I.lt b e he)
  have hB1 : ∀ b e, h1 b = some e → b < H.size := fun b e he => I.lt b e he
  refine lv_aload_n hx hb dL_law_1342 rfl (lv_at hl 3 rfl) ?_
  refine lv_aload_n hx hb dL_law_1343 rfl (lv_at hl 1 rfl) ?_
  refine lv_iload hx hb dL_law_1344 (lv_at hl 5 rfl) ?_
  refine lv_iconst (v := nI 1) hx hb dL_law_1346 (by decide) ?_
  refine lv_iadd hx hb dL_law_1347 ?_
  refine va_sld hx hb hX hbl hbA hS v1 dL_law_1348 ?_
  refine xtop e1 ?_
  refine xcvQ (As := [.int a1]) (rest := []) ⟨hx, hb, hml, hown, hts⟩ (mX8_cost l s.heap.size D E h1 σ th r (arN ar H.size) hM1 hMW a1) (cwV 1 hts gL_law_X8_cost rfl rfl rfl (by decide +kernel) ⟨Nat.le_of_ble_eq_true rfl, Nat.le_of_ble_eq_true rfl⟩) I hS hM1.1 rfl rfl hl.1 rfl (Nat.le_of_ble_eq_true rfl) dL_law_1349 ⟨show cells + 1 + 0 ≤ 601024 by omega, show slots + 6 + 0 ≤ 7293034 by omega⟩ (fun v9 h2 H2 locs q9 I hS => ?_)
  obtain ⟨rfl, hM2, hF2⟩ := q9
  obtain ⟨ho2, hLI⟩ := l_next hR1 h00 hM2 hB1 hF2 hou ho1 hRel1 hW1
  obtain ⟨f1, ef1⟩ : ∃ y, y = (fX8_cost σ th a1).1 := ⟨_, rfl⟩
  refine W.eq (g2 := F0 m 1352 ls [.long (fX8_cost σ th a1).1]) rfl ?_
  refine xtop (show Value.long (fX8_cost σ th a1).1 = .long f1 by rw [ef1]) ?_
  refine lv_lstore (lv' := [(6, .long f1), (5, .int k1), (0, .ref b), (1, .ref (ad 0 0)), (2, .ref r), (3, .ref ou), (4, .int (nI i))]) hx hb dL_law_1352 hl (by decide) rfl (fun ls hl => ?_)
  refine lv_aload_n hx hb dL_law_1354 rfl (lv_at hl 4 rfl) ?_
  refine xcvR (As := ([] : List Value)) (rest := []) ⟨hx, hb, hml, hown, hts⟩ (mX8_thrown l s.heap.size D E h2 _ _ r _ hM2 (hRel1.MW hW1)) (cwV 0 hts gL_law_X8_thrown rfl rfl rfl (by decide +kernel) ⟨Nat.le_of_ble_eq_true rfl, Nat.le_of_ble_eq_true rfl⟩) I hM2.1 rfl rfl hl.1 rfl (Nat.le_of_ble_eq_true rfl) dL_law_1355 ⟨show cells + 1 + 0 + 0 ≤ 601024 by omega, show slots + 6 + 0 + 0 ≤ 7293034 by omega⟩ ?_
  refine W.eq (g2 := F0 m 1358 ls [.int (fX8_cost σ th a1).2.2]) rfl ?_
  refine xtop (show Value.int (fX8_cost σ th a1).2.2 = .int k1 by rw [ek1]) ?_
  refine lv_iload hx hb dL_law_1358 (lv_at hl 1 rfl) ?_
  refine lv_icmp_eq (tgt := 1365) hx hb dL_law_1360 (by decide) (fun c1 => ?_) (fun c1 => absurd rfl c1)
  refine lv_iload hx hb dL_law_1365 (lv_at hl 1 rfl) ?_
  refine lv_if_ne (tgt := 1381) hx hb dL_law_1367 (by decide) (fun c2 => ?_) (fun c2 => ?_)
  · refine lv_goto (tgt := 2238) hx hb dL_law_1381 (by decide) ?_
    exact W.widen (by omega) (by omega) (kk _ _ _ _ hLI I hS (lv_sub hl [2, 3, 4, 5, 6] rfl))
  · have hk0 : (fX8_cost σ th a1).2.2 = nI 0 := by rw [← ek1]; exact c2
    have hval : fo1 0 = (fX8_cost σ th a1).1 := hans hk0 _ rfl
    refine lv_aload_n hx hb dL_law_1370 rfl (lv_at hl 5 rfl) ?_
    refine lv_iconst (v := nI 0) hx hb dL_law_1371 (by decide) ?_
    refine xlald (i := 0) (n := 1) hx hb I ho2 (by decide) (by decide) dL_law_1372 ?_
    refine lv_lload hx hb dL_law_1373 (lv_at hl 0 rfl) ?_
    refine xl_eq (tgt := 1381) hx hb dL_law_1375 dL_law_1376 (by decide) (fun _ => ?_) (fun z => absurd (by rw [hval, ef1]) z)
    refine lv_goto (tgt := 2238) hx hb dL_law_1381 (by decide) ?_
    exact W.widen (by omega) (by omega) (kk _ _ _ _ hLI I hS (lv_sub hl [2, 3, 4, 5, 6] rfl))
set_option maxHeartbeats 4000000 in
set_option maxRecDepth 100000 in
theorem lc_advance {p : Program} {l : Launch} {e : Env} {s : State} {m : MethodId} {below : List Frame} {meth : Method} {c : Code} {b L : Nat} {xs : Nat → Int32} {Q : State → Prop} {D : va_G} {E : Nat → ClassId} {h : XW} {H : Heap} {locs : List Loc} {cells slots X r ou i : Nat} {ls : Array Slot} (F : LF p l s m c b L xs) (hI : LI E X r ou h) (I : XI s.heap.size D E h s H) (hS : va_S (xA s.heap.size) s.heap H locs) (hcs : cells + 9 ≤ 601024 ∧ slots + 65 ≤ 7293034) (hi : i + 6 ≤ L) (hL : L ≤ 3072) (hl : lv_has ls 8 [(0, .ref b), (1, .ref X), (2, .ref r), (3, .ref ou), (4, .int (nI i))])
    (kk : ∀ (h2 : XW) (H2 : Heap) (locs2 : List Loc) (ls2 : Array Slot), LI E X r ou h2 → XI s.heap.size D E h2 s H2 → va_S (xA s.heap.size) s.heap H2 locs2 → lv_has ls2 8 [(0, .ref b), (1, .ref X), (2, .ref r), (3, .ref ou), (4, .int (nI i))] → W p l e room_1 s m #[Value.ref b] below meth c H2 locs2 (cells + 9) (slots + 65) Q (F0 m 2238 ls2 [])) : W p l e room_1 s m #[Value.ref b] below meth c H locs cells slots Q (F0 m 1384 ls []) := by
  obtain ⟨hx, hb, hml, hown, hts, hX, hbl, hCa, hlst⟩ := F
  obtain ⟨σ, τ, th, ad, fa, ar, fo, hR, rfl, hM, hou, ho, hRel, hW⟩ := hI
  have hMW := hRel.MW hW
  have hbA : ¬ xA s.heap.size b := Nat.not_le.mpr hbl
  have v1 : vp_in (nI i + nI 1) L := by rw [nI_add]; exact vp_in_nI (by omega) (by omega)
  obtain ⟨a1, ea1⟩ : ∃ y : Int32, y = xs (nI i + nI 1).toNatClampNeg := ⟨_, rfl⟩
  have e1 : Value.int (xs (nI i + nI 1).toNatClampNeg) = .int a1 := by rw [ea1]
  have v2 : vp_in (nI i + nI 2) L := by rw [nI_add]; exact vp_in_nI (by omega) (by omega)
  obtain ⟨a2, ea2⟩ : ∃ y : Int32, y = xs (nI i + nI 2).toNatClampNeg := ⟨_, rfl⟩
  have e2 : Value.int (xs (nI i + nI 2).toNatClampNeg) = .int a2 := by rw [ea2]
  have q := q_advance hRel hW th a1 a2
  refine lv_aload_n hx hb dL_law_1384 rfl (lv_at hl 1 rfl) ?_
  refine lv_aload_n hx hb dL_law_1385 rfl (lv_at hl 0 rfl) ?_
  refine lv_iload hx hb dL_law_1386 (lv_at hl 4 rfl) ?_
  refine lv_iconst (v := nI 1) hx hb dL_law_1388 (by decide) ?_
  refine lv_iadd hx hb dL_law_1389 ?_
  refine va_sld hx hb hX hbl hbA hS v1 dL_law_1390 ?_
  refine xtop e1 ?_
  refine lv_aload_n hx hb dL_law_1391 rfl (lv_at hl 0 rfl) ?_
  refine lv_iload hx hb dL_law_1392 (lv_at hl 4 rfl) ?_
  refine lv_iconst (v := nI 2) hx hb dL_law_1394 (by decide) ?_
  refine lv_iadd hx hb dL_law_1395 ?_
  refine va_sld hx hb hX hbl hbA hS v2 dL_law_1396 ?_
  refine xtop e2 ?_
  refine lv_aload_n hx hb dL_law_1397 rfl (lv_at hl 3 rfl) ?_
  refine xcsW (As := [.ref (ad 0 0), .int a1, .int a2, .ref ou]) (rest := []) ⟨hx, hb, hml, hown, hts⟩ (mL_advance l s.heap.size D E h hlst (lPr r ou ar) τ ad fa hR hW ou fo (Or.inl rfl) ho a1 a2 (hE2 q)) (vx_cwSW 4 hts gL_law_L_advance rfl rfl rfl (by decide +kernel) ⟨Nat.le_of_ble_eq_true rfl, Nat.le_of_ble_eq_true rfl⟩) I hCa hS rfl hl.1 rfl (Nat.le_of_ble_eq_true rfl) dL_law_1398 ⟨show cells + 4 ≤ 601024 by omega, show slots + 24 ≤ 7293034 by omega⟩ (fun v9 h1 H locs q9 I hS => ?_)
  obtain ⟨rfl, τ1, ad1, fa1, fo1, hRel1, hW1, hR1, h00, hpr, ho1, hans⟩ := l_post (by decide) hR rfl hW ho q q9
  obtain ⟨k1, ek1⟩ : ∃ y, y = (fX8_advance σ th a1 a2).2.2 := ⟨_, rfl⟩
  refine W.eq (g2 := F0 m 1401 ls [.int (fX8_advance σ th a1 a2).2.2]) rfl ?_
  refine xtop (show Value.int (fX8_advance σ th a1 a2).2.2 = .int k1 by rw [ek1]) ?_
  refine lv_istore (lv' := [(5, .int k1), (0, .ref b), (1, .ref (ad 0 0)), (2, .ref r), (3, .ref ou), (4, .int (nI i))]) hx hb dL_law_1401 hl (by decide) rfl (fun ls hl => ?_)
  have hM1 : RM E σ th r (arN ar H.size) h1 := (hM.keep (hpr r (Or.inr (Or.inl rfl)) hou.1.symm) (fun k hk ha => hpr (ar k) (Or.inr (Or.inr ⟨k, hk, ha, rfl⟩)) (hou.2 k hk ha).symm)).re (fun b e he => I.lt b e he)
  have hB1 : ∀ b e, h1 b = some e → b < H.size := fun b e he => I.lt b e he
  refine lv_aload_n hx hb dL_law_1403 rfl (lv_at hl 3 rfl) ?_
  refine lv_aload_n hx hb dL_law_1404 rfl (lv_at hl 1 rfl) ?_
  refine lv_iload hx hb dL_law_1405 (lv_at hl 5 rfl) ?_
  refine lv_iconst (v := nI 1) hx hb dL_law_1407 (by decide) ?_
  refine lv_iadd hx hb dL_law_1408 ?_
  refine va_sld hx hb hX hbl hbA hS v1 dL_law_1409 ?_
  refine xtop e1 ?_
  refine lv_aload_n hx hb dL_law_1410 rfl (lv_at hl 1 rfl) ?_
  refine lv_iload hx hb dL_law_1411 (lv_at hl 5 rfl) ?_
  refine lv_iconst (v := nI 2) hx hb dL_law_1413 (by decide) ?_
  refine lv_iadd hx hb dL_law_1414 ?_
  refine va_sld hx hb hX hbl hbA hS v2 dL_law_1415 ?_
  refine xtop e2 ?_
  refine xcvQ (As := [.int a1, .int a2]) (rest := []) ⟨hx, hb, hml, hown, hts⟩ (mX8_advance l s.heap.size D E h1 σ th r (arN ar H.size) hM1 hMW a1 a2) (cwV 2 hts gL_law_X8_advance rfl rfl rfl (by decide +kernel) ⟨Nat.le_of_ble_eq_true rfl, Nat.le_of_ble_eq_true rfl⟩) I hS hM1.1 rfl rfl hl.1 rfl (Nat.le_of_ble_eq_true rfl) dL_law_1416 ⟨show cells + 4 + 0 ≤ 601024 by omega, show slots + 24 + 0 ≤ 7293034 by omega⟩ (fun v9 h2 H2 locs q9 I hS => ?_)
  obtain ⟨rfl, hM2, hF2⟩ := q9
  obtain ⟨ho2, hLI⟩ := l_next hR1 h00 hM2 hB1 hF2 hou ho1 hRel1 hW1
  obtain ⟨f1, ef1⟩ : ∃ y, y = (fX8_advance σ th a1 a2).1 := ⟨_, rfl⟩
  refine W.eq (g2 := F0 m 1419 ls [.int (fX8_advance σ th a1 a2).1]) rfl ?_
  refine xtop (show Value.int (fX8_advance σ th a1 a2).1 = .int f1 by rw [ef1]) ?_
  refine lv_istore (lv' := [(6, .int f1), (5, .int k1), (0, .ref b), (1, .ref (ad 0 0)), (2, .ref r), (3, .ref ou), (4, .int (nI i))]) hx hb dL_law_1419 hl (by decide) rfl (fun ls hl => ?_)
  refine lv_aload_n hx hb dL_law_1421 rfl (lv_at hl 4 rfl) ?_
  refine xcvR (As := ([] : List Value)) (rest := []) ⟨hx, hb, hml, hown, hts⟩ (mX8_thrown l s.heap.size D E h2 _ _ r _ hM2 (hRel1.MW hW1)) (cwV 0 hts gL_law_X8_thrown rfl rfl rfl (by decide +kernel) ⟨Nat.le_of_ble_eq_true rfl, Nat.le_of_ble_eq_true rfl⟩) I hM2.1 rfl rfl hl.1 rfl (Nat.le_of_ble_eq_true rfl) dL_law_1422 ⟨show cells + 4 + 0 + 0 ≤ 601024 by omega, show slots + 24 + 0 + 0 ≤ 7293034 by omega⟩ ?_
  refine W.eq (g2 := F0 m 1425 ls [.int (fX8_advance σ th a1 a2).2.2]) rfl ?_
  refine xtop (show Value.int (fX8_advance σ th a1 a2).2.2 = .int k1 by rw [ek1]) ?_
  refine lv_iload hx hb dL_law_1425 (lv_at hl 1 rfl) ?_
  refine lv_icmp_eq (tgt := 1432) hx hb dL_law_1427 (by decide) (fun c1 => ?_) (fun c1 => absurd rfl c1)
  refine lv_iload hx hb dL_law_1432 (lv_at hl 1 rfl) ?_
  refine lv_if_ne (tgt := 1449) hx hb dL_law_1434 (by decide) (fun c2 => ?_) (fun c2 => ?_)
  · refine lv_goto (tgt := 2238) hx hb dL_law_1449 (by decide) ?_
    exact W.widen (by omega) (by omega) (kk _ _ _ _ hLI I hS (lv_sub hl [2, 3, 4, 5, 6] rfl))
  · have hk0 : (fX8_advance σ th a1 a2).2.2 = nI 0 := by rw [← ek1]; exact c2
    have hval : fo1 0 = (fX8_advance σ th a1 a2).1.toInt64 := hans hk0 _ rfl
    refine lv_aload_n hx hb dL_law_1437 rfl (lv_at hl 5 rfl) ?_
    refine lv_iconst (v := nI 0) hx hb dL_law_1438 (by decide) ?_
    refine xlald (i := 0) (n := 1) hx hb I ho2 (by decide) (by decide) dL_law_1439 ?_
    refine lv_iload hx hb dL_law_1440 (lv_at hl 0 rfl) ?_
    refine lv_i2l (v := f1.toInt64) hx hb dL_law_1442 rfl ?_
    refine xl_eq (tgt := 1449) hx hb dL_law_1443 dL_law_1444 (by decide) (fun _ => ?_) (fun z => absurd (by rw [hval, ef1]) z)
    refine lv_goto (tgt := 2238) hx hb dL_law_1449 (by decide) ?_
    exact W.widen (by omega) (by omega) (kk _ _ _ _ hLI I hS (lv_sub hl [2, 3, 4, 5, 6] rfl))
set_option maxHeartbeats 4000000 in
set_option maxRecDepth 100000 in
theorem lc_further {p : Program} {l : Launch} {e : Env} {s : State} {m : MethodId} {below : List Frame} {meth : Method} {c : Code} {b L : Nat} {xs : Nat → Int32} {Q : State → Prop} {D : va_G} {E : Nat → ClassId} {h : XW} {H : Heap} {locs : List Loc} {cells slots X r ou i : Nat} {ls : Array Slot} (F : LF p l s m c b L xs) (hI : LI E X r ou h) (I : XI s.heap.size D E h s H) (hS : va_S (xA s.heap.size) s.heap H locs) (hcs : cells + 9 ≤ 601024 ∧ slots + 65 ≤ 7293034) (hi : i + 6 ≤ L) (hL : L ≤ 3072) (hl : lv_has ls 8 [(0, .ref b), (1, .ref X), (2, .ref r), (3, .ref ou), (4, .int (nI i))])
    (kk : ∀ (h2 : XW) (H2 : Heap) (locs2 : List Loc) (ls2 : Array Slot), LI E X r ou h2 → XI s.heap.size D E h2 s H2 → va_S (xA s.heap.size) s.heap H2 locs2 → lv_has ls2 8 [(0, .ref b), (1, .ref X), (2, .ref r), (3, .ref ou), (4, .int (nI i))] → W p l e room_1 s m #[Value.ref b] below meth c H2 locs2 (cells + 9) (slots + 65) Q (F0 m 2238 ls2 [])) : W p l e room_1 s m #[Value.ref b] below meth c H locs cells slots Q (F0 m 1452 ls []) := by
  obtain ⟨hx, hb, hml, hown, hts, hX, hbl, hCa, hlst⟩ := F
  obtain ⟨σ, τ, th, ad, fa, ar, fo, hR, rfl, hM, hou, ho, hRel, hW⟩ := hI
  have hMW := hRel.MW hW
  have hbA : ¬ xA s.heap.size b := Nat.not_le.mpr hbl
  have v1 : vp_in (nI i + nI 1) L := by rw [nI_add]; exact vp_in_nI (by omega) (by omega)
  obtain ⟨a1, ea1⟩ : ∃ y : Int32, y = xs (nI i + nI 1).toNatClampNeg := ⟨_, rfl⟩
  have e1 : Value.int (xs (nI i + nI 1).toNatClampNeg) = .int a1 := by rw [ea1]
  have v2 : vp_in (nI i + nI 2) L := by rw [nI_add]; exact vp_in_nI (by omega) (by omega)
  obtain ⟨a2, ea2⟩ : ∃ y : Int32, y = xs (nI i + nI 2).toNatClampNeg := ⟨_, rfl⟩
  have e2 : Value.int (xs (nI i + nI 2).toNatClampNeg) = .int a2 := by rw [ea2]
  have q := q_further hRel hW th a1 a2
  refine lv_aload_n hx hb dL_law_1452 rfl (lv_at hl 1 rfl) ?_
  refine lv_aload_n hx hb dL_law_1453 rfl (lv_at hl 0 rfl) ?_
  refine lv_iload hx hb dL_law_1454 (lv_at hl 4 rfl) ?_
  refine lv_iconst (v := nI 1) hx hb dL_law_1456 (by decide) ?_
  refine lv_iadd hx hb dL_law_1457 ?_
  refine va_sld hx hb hX hbl hbA hS v1 dL_law_1458 ?_
  refine xtop e1 ?_
  refine lv_aload_n hx hb dL_law_1459 rfl (lv_at hl 0 rfl) ?_
  refine lv_iload hx hb dL_law_1460 (lv_at hl 4 rfl) ?_
  refine lv_iconst (v := nI 2) hx hb dL_law_1462 (by decide) ?_
  refine lv_iadd hx hb dL_law_1463 ?_
  refine va_sld hx hb hX hbl hbA hS v2 dL_law_1464 ?_
  refine xtop e2 ?_
  refine lv_aload_n hx hb dL_law_1465 rfl (lv_at hl 3 rfl) ?_
  refine xcsW (As := [.ref (ad 0 0), .int a1, .int a2, .ref ou]) (rest := []) ⟨hx, hb, hml, hown, hts⟩ (mL_further l s.heap.size D E h hlst (lPr r ou ar) τ ad fa hR hW ou fo (Or.inl rfl) ho a1 a2 (hE2 q)) (vx_cwSW 4 hts gL_law_L_further rfl rfl rfl (by decide +kernel) ⟨Nat.le_of_ble_eq_true rfl, Nat.le_of_ble_eq_true rfl⟩) I hCa hS rfl hl.1 rfl (Nat.le_of_ble_eq_true rfl) dL_law_1466 ⟨show cells + 4 ≤ 601024 by omega, show slots + 24 ≤ 7293034 by omega⟩ (fun v9 h1 H locs q9 I hS => ?_)
  obtain ⟨rfl, τ1, ad1, fa1, fo1, hRel1, hW1, hR1, h00, hpr, ho1, hans⟩ := l_post (by decide) hR rfl hW ho q q9
  obtain ⟨k1, ek1⟩ : ∃ y, y = (fX8_further σ th a1 a2).2.2 := ⟨_, rfl⟩
  refine W.eq (g2 := F0 m 1469 ls [.int (fX8_further σ th a1 a2).2.2]) rfl ?_
  refine xtop (show Value.int (fX8_further σ th a1 a2).2.2 = .int k1 by rw [ek1]) ?_
  refine lv_istore (lv' := [(5, .int k1), (0, .ref b), (1, .ref (ad 0 0)), (2, .ref r), (3, .ref ou), (4, .int (nI i))]) hx hb dL_law_1469 hl (by decide) rfl (fun ls hl => ?_)
  have hM1 : RM E σ th r (arN ar H.size) h1 := (hM.keep (hpr r (Or.inr (Or.inl rfl)) hou.1.symm) (fun k hk ha => hpr (ar k) (Or.inr (Or.inr ⟨k, hk, ha, rfl⟩)) (hou.2 k hk ha).symm)).re (fun b e he => I.lt b e he)
  have hB1 : ∀ b e, h1 b = some e → b < H.size := fun b e he => I.lt b e he
  refine lv_aload_n hx hb dL_law_1471 rfl (lv_at hl 3 rfl) ?_
  refine lv_aload_n hx hb dL_law_1472 rfl (lv_at hl 1 rfl) ?_
  refine lv_iload hx hb dL_law_1473 (lv_at hl 5 rfl) ?_
  refine lv_iconst (v := nI 1) hx hb dL_law_1475 (by decide) ?_
  refine lv_iadd hx hb dL_law_1476 ?_
  refine va_sld hx hb hX hbl hbA hS v1 dL_law_1477 ?_
  refine xtop e1 ?_
  refine lv_aload_n hx hb dL_law_1478 rfl (lv_at hl 1 rfl) ?_
  refine lv_iload hx hb dL_law_1479 (lv_at hl 5 rfl) ?_
  refine lv_iconst (v := nI 2) hx hb dL_law_1481 (by decide) ?_
  refine lv_iadd hx hb dL_law_1482 ?_
  refine va_sld hx hb hX hbl hbA hS v2 dL_law_1483 ?_
  refine xtop e2 ?_
  refine xcvQ (As := [.int a1, .int a2]) (rest := []) ⟨hx, hb, hml, hown, hts⟩ (mX8_further l s.heap.size D E h1 σ th r (arN ar H.size) hM1 hMW a1 a2) (cwV 2 hts gL_law_X8_further rfl rfl rfl (by decide +kernel) ⟨Nat.le_of_ble_eq_true rfl, Nat.le_of_ble_eq_true rfl⟩) I hS hM1.1 rfl rfl hl.1 rfl (Nat.le_of_ble_eq_true rfl) dL_law_1484 ⟨show cells + 4 + 0 ≤ 601024 by omega, show slots + 24 + 0 ≤ 7293034 by omega⟩ (fun v9 h2 H2 locs q9 I hS => ?_)
  obtain ⟨rfl, hM2, hF2⟩ := q9
  obtain ⟨ho2, hLI⟩ := l_next hR1 h00 hM2 hB1 hF2 hou ho1 hRel1 hW1
  obtain ⟨f1, ef1⟩ : ∃ y, y = (fX8_further σ th a1 a2).1 := ⟨_, rfl⟩
  refine W.eq (g2 := F0 m 1487 ls [.int (fX8_further σ th a1 a2).1]) rfl ?_
  refine xtop (show Value.int (fX8_further σ th a1 a2).1 = .int f1 by rw [ef1]) ?_
  refine lv_istore (lv' := [(6, .int f1), (5, .int k1), (0, .ref b), (1, .ref (ad 0 0)), (2, .ref r), (3, .ref ou), (4, .int (nI i))]) hx hb dL_law_1487 hl (by decide) rfl (fun ls hl => ?_)
  refine lv_aload_n hx hb dL_law_1489 rfl (lv_at hl 4 rfl) ?_
  refine xcvR (As := ([] : List Value)) (rest := []) ⟨hx, hb, hml, hown, hts⟩ (mX8_thrown l s.heap.size D E h2 _ _ r _ hM2 (hRel1.MW hW1)) (cwV 0 hts gL_law_X8_thrown rfl rfl rfl (by decide +kernel) ⟨Nat.le_of_ble_eq_true rfl, Nat.le_of_ble_eq_true rfl⟩) I hM2.1 rfl rfl hl.1 rfl (Nat.le_of_ble_eq_true rfl) dL_law_1490 ⟨show cells + 4 + 0 + 0 ≤ 601024 by omega, show slots + 24 + 0 + 0 ≤ 7293034 by omega⟩ ?_
  refine W.eq (g2 := F0 m 1493 ls [.int (fX8_further σ th a1 a2).2.2]) rfl ?_
  refine xtop (show Value.int (fX8_further σ th a1 a2).2.2 = .int k1 by rw [ek1]) ?_
  refine lv_iload hx hb dL_law_1493 (lv_at hl 1 rfl) ?_
  refine lv_icmp_eq (tgt := 1500) hx hb dL_law_1495 (by decide) (fun c1 => ?_) (fun c1 => absurd rfl c1)
  refine lv_iload hx hb dL_law_1500 (lv_at hl 1 rfl) ?_
  refine lv_if_ne (tgt := 1517) hx hb dL_law_1502 (by decide) (fun c2 => ?_) (fun c2 => ?_)
  · refine lv_goto (tgt := 2238) hx hb dL_law_1517 (by decide) ?_
    exact W.widen (by omega) (by omega) (kk _ _ _ _ hLI I hS (lv_sub hl [2, 3, 4, 5, 6] rfl))
  · have hk0 : (fX8_further σ th a1 a2).2.2 = nI 0 := by rw [← ek1]; exact c2
    have hval : fo1 0 = (fX8_further σ th a1 a2).1.toInt64 := hans hk0 _ rfl
    refine lv_aload_n hx hb dL_law_1505 rfl (lv_at hl 5 rfl) ?_
    refine lv_iconst (v := nI 0) hx hb dL_law_1506 (by decide) ?_
    refine xlald (i := 0) (n := 1) hx hb I ho2 (by decide) (by decide) dL_law_1507 ?_
    refine lv_iload hx hb dL_law_1508 (lv_at hl 0 rfl) ?_
    refine lv_i2l (v := f1.toInt64) hx hb dL_law_1510 rfl ?_
    refine xl_eq (tgt := 1517) hx hb dL_law_1511 dL_law_1512 (by decide) (fun _ => ?_) (fun z => absurd (by rw [hval, ef1]) z)
    refine lv_goto (tgt := 2238) hx hb dL_law_1517 (by decide) ?_
    exact W.widen (by omega) (by omega) (kk _ _ _ _ hLI I hS (lv_sub hl [2, 3, 4, 5, 6] rfl))
set_option maxHeartbeats 4000000 in
set_option maxRecDepth 100000 in
theorem lc_release {p : Program} {l : Launch} {e : Env} {s : State} {m : MethodId} {below : List Frame} {meth : Method} {c : Code} {b L : Nat} {xs : Nat → Int32} {Q : State → Prop} {D : va_G} {E : Nat → ClassId} {h : XW} {H : Heap} {locs : List Loc} {cells slots X r ou i : Nat} {ls : Array Slot} (F : LF p l s m c b L xs) (hI : LI E X r ou h) (I : XI s.heap.size D E h s H) (hS : va_S (xA s.heap.size) s.heap H locs) (hcs : cells + 9 ≤ 601024 ∧ slots + 65 ≤ 7293034) (hi : i + 6 ≤ L) (hL : L ≤ 3072) (hl : lv_has ls 8 [(0, .ref b), (1, .ref X), (2, .ref r), (3, .ref ou), (4, .int (nI i))])
    (kk : ∀ (h2 : XW) (H2 : Heap) (locs2 : List Loc) (ls2 : Array Slot), LI E X r ou h2 → XI s.heap.size D E h2 s H2 → va_S (xA s.heap.size) s.heap H2 locs2 → lv_has ls2 8 [(0, .ref b), (1, .ref X), (2, .ref r), (3, .ref ou), (4, .int (nI i))] → W p l e room_1 s m #[Value.ref b] below meth c H2 locs2 (cells + 9) (slots + 65) Q (F0 m 2238 ls2 [])) : W p l e room_1 s m #[Value.ref b] below meth c H locs cells slots Q (F0 m 1520 ls []) := by
  obtain ⟨hx, hb, hml, hown, hts, hX, hbl, hCa, hlst⟩ := F
  obtain ⟨σ, τ, th, ad, fa, ar, fo, hR, rfl, hM, hou, ho, hRel, hW⟩ := hI
  have hMW := hRel.MW hW
  have hbA : ¬ xA s.heap.size b := Nat.not_le.mpr hbl
  have v1 : vp_in (nI i + nI 1) L := by rw [nI_add]; exact vp_in_nI (by omega) (by omega)
  obtain ⟨a1, ea1⟩ : ∃ y : Int32, y = xs (nI i + nI 1).toNatClampNeg := ⟨_, rfl⟩
  have e1 : Value.int (xs (nI i + nI 1).toNatClampNeg) = .int a1 := by rw [ea1]
  have v2 : vp_in (nI i + nI 2) L := by rw [nI_add]; exact vp_in_nI (by omega) (by omega)
  obtain ⟨a2, ea2⟩ : ∃ y : Int32, y = xs (nI i + nI 2).toNatClampNeg := ⟨_, rfl⟩
  have e2 : Value.int (xs (nI i + nI 2).toNatClampNeg) = .int a2 := by rw [ea2]
  have q := q_release hRel hW th a1 a2
  refine lv_aload_n hx hb dL_law_1520 rfl (lv_at hl 1 rfl) ?_
  refine lv_aload_n hx hb dL_law_1521 rfl (lv_at hl 0 rfl) ?_
  refine lv_iload hx hb dL_law_1522 (lv_at hl 4 rfl) ?_
  refine lv_iconst (v := nI 1) hx hb dL_law_1524 (by decide) ?_
  refine lv_iadd hx hb dL_law_1525 ?_
  refine va_sld hx hb hX hbl hbA hS v1 dL_law_1526 ?_
  refine xtop e1 ?_
  refine lv_aload_n hx hb dL_law_1527 rfl (lv_at hl 0 rfl) ?_
  refine lv_iload hx hb dL_law_1528 (lv_at hl 4 rfl) ?_
  refine lv_iconst (v := nI 2) hx hb dL_law_1530 (by decide) ?_
  refine lv_iadd hx hb dL_law_1531 ?_
  refine va_sld hx hb hX hbl hbA hS v2 dL_law_1532 ?_
  refine xtop e2 ?_
  refine lv_aload_n hx hb dL_law_1533 rfl (lv_at hl 3 rfl) ?_
  refine xcsW (As := [.ref (ad 0 0), .int a1, .int a2, .ref ou]) (rest := []) ⟨hx, hb, hml, hown, hts⟩ (mL_release l s.heap.size D E h hlst (lPr r ou ar) τ ad fa hR hW ou fo (Or.inl rfl) ho a1 a2 (hE3 q)) (vx_cwSW 4 hts gL_law_L_release rfl rfl rfl (by decide +kernel) ⟨Nat.le_of_ble_eq_true rfl, Nat.le_of_ble_eq_true rfl⟩) I hCa hS rfl hl.1 rfl (Nat.le_of_ble_eq_true rfl) dL_law_1534 ⟨show cells + 3 ≤ 601024 by omega, show slots + 18 ≤ 7293034 by omega⟩ (fun v9 h1 H locs q9 I hS => ?_)
  obtain ⟨rfl, τ1, ad1, fa1, fo1, hRel1, hW1, hR1, h00, hpr, ho1, hans⟩ := l_post (by decide) hR rfl hW ho q q9
  obtain ⟨k1, ek1⟩ : ∃ y, y = (fX8_release σ th a1 a2).2.2 := ⟨_, rfl⟩
  refine W.eq (g2 := F0 m 1537 ls [.int (fX8_release σ th a1 a2).2.2]) rfl ?_
  refine xtop (show Value.int (fX8_release σ th a1 a2).2.2 = .int k1 by rw [ek1]) ?_
  refine lv_istore (lv' := [(5, .int k1), (0, .ref b), (1, .ref (ad 0 0)), (2, .ref r), (3, .ref ou), (4, .int (nI i))]) hx hb dL_law_1537 hl (by decide) rfl (fun ls hl => ?_)
  have hM1 : RM E σ th r (arN ar H.size) h1 := (hM.keep (hpr r (Or.inr (Or.inl rfl)) hou.1.symm) (fun k hk ha => hpr (ar k) (Or.inr (Or.inr ⟨k, hk, ha, rfl⟩)) (hou.2 k hk ha).symm)).re (fun b e he => I.lt b e he)
  have hB1 : ∀ b e, h1 b = some e → b < H.size := fun b e he => I.lt b e he
  refine lv_aload_n hx hb dL_law_1539 rfl (lv_at hl 3 rfl) ?_
  refine lv_aload_n hx hb dL_law_1540 rfl (lv_at hl 1 rfl) ?_
  refine lv_iload hx hb dL_law_1541 (lv_at hl 5 rfl) ?_
  refine lv_iconst (v := nI 1) hx hb dL_law_1543 (by decide) ?_
  refine lv_iadd hx hb dL_law_1544 ?_
  refine va_sld hx hb hX hbl hbA hS v1 dL_law_1545 ?_
  refine xtop e1 ?_
  refine lv_aload_n hx hb dL_law_1546 rfl (lv_at hl 1 rfl) ?_
  refine lv_iload hx hb dL_law_1547 (lv_at hl 5 rfl) ?_
  refine lv_iconst (v := nI 2) hx hb dL_law_1549 (by decide) ?_
  refine lv_iadd hx hb dL_law_1550 ?_
  refine va_sld hx hb hX hbl hbA hS v2 dL_law_1551 ?_
  refine xtop e2 ?_
  refine xcvQ (As := [.int a1, .int a2]) (rest := []) ⟨hx, hb, hml, hown, hts⟩ (mX8_release l s.heap.size D E h1 σ th r (arN ar H.size) hM1 hMW a1 a2) (cwV 2 hts gL_law_X8_release rfl rfl rfl (by decide +kernel) ⟨Nat.le_of_ble_eq_true rfl, Nat.le_of_ble_eq_true rfl⟩) I hS hM1.1 rfl rfl hl.1 rfl (Nat.le_of_ble_eq_true rfl) dL_law_1552 ⟨show cells + 3 + 0 ≤ 601024 by omega, show slots + 18 + 0 ≤ 7293034 by omega⟩ (fun v9 h2 H2 locs q9 I hS => ?_)
  obtain ⟨rfl, hM2, hF2⟩ := q9
  obtain ⟨ho2, hLI⟩ := l_next hR1 h00 hM2 hB1 hF2 hou ho1 hRel1 hW1
  obtain ⟨f1, ef1⟩ : ∃ y, y = (fX8_release σ th a1 a2).1 := ⟨_, rfl⟩
  refine W.eq (g2 := F0 m 1555 ls [.int (fX8_release σ th a1 a2).1]) rfl ?_
  refine xtop (show Value.int (fX8_release σ th a1 a2).1 = .int f1 by rw [ef1]) ?_
  refine lv_istore (lv' := [(6, .int f1), (5, .int k1), (0, .ref b), (1, .ref (ad 0 0)), (2, .ref r), (3, .ref ou), (4, .int (nI i))]) hx hb dL_law_1555 hl (by decide) rfl (fun ls hl => ?_)
  refine lv_aload_n hx hb dL_law_1557 rfl (lv_at hl 4 rfl) ?_
  refine xcvR (As := ([] : List Value)) (rest := []) ⟨hx, hb, hml, hown, hts⟩ (mX8_thrown l s.heap.size D E h2 _ _ r _ hM2 (hRel1.MW hW1)) (cwV 0 hts gL_law_X8_thrown rfl rfl rfl (by decide +kernel) ⟨Nat.le_of_ble_eq_true rfl, Nat.le_of_ble_eq_true rfl⟩) I hM2.1 rfl rfl hl.1 rfl (Nat.le_of_ble_eq_true rfl) dL_law_1558 ⟨show cells + 3 + 0 + 0 ≤ 601024 by omega, show slots + 18 + 0 + 0 ≤ 7293034 by omega⟩ ?_
  refine W.eq (g2 := F0 m 1561 ls [.int (fX8_release σ th a1 a2).2.2]) rfl ?_
  refine xtop (show Value.int (fX8_release σ th a1 a2).2.2 = .int k1 by rw [ek1]) ?_
  refine lv_iload hx hb dL_law_1561 (lv_at hl 1 rfl) ?_
  refine lv_icmp_eq (tgt := 1568) hx hb dL_law_1563 (by decide) (fun c1 => ?_) (fun c1 => absurd rfl c1)
  refine lv_iload hx hb dL_law_1568 (lv_at hl 1 rfl) ?_
  refine lv_if_ne (tgt := 1585) hx hb dL_law_1570 (by decide) (fun c2 => ?_) (fun c2 => ?_)
  · refine lv_goto (tgt := 2238) hx hb dL_law_1585 (by decide) ?_
    exact W.widen (by omega) (by omega) (kk _ _ _ _ hLI I hS (lv_sub hl [2, 3, 4, 5, 6] rfl))
  · have hk0 : (fX8_release σ th a1 a2).2.2 = nI 0 := by rw [← ek1]; exact c2
    have hval : fo1 0 = (fX8_release σ th a1 a2).1.toInt64 := hans hk0 _ rfl
    refine lv_aload_n hx hb dL_law_1573 rfl (lv_at hl 5 rfl) ?_
    refine lv_iconst (v := nI 0) hx hb dL_law_1574 (by decide) ?_
    refine xlald (i := 0) (n := 1) hx hb I ho2 (by decide) (by decide) dL_law_1575 ?_
    refine lv_iload hx hb dL_law_1576 (lv_at hl 0 rfl) ?_
    refine lv_i2l (v := f1.toInt64) hx hb dL_law_1578 rfl ?_
    refine xl_eq (tgt := 1585) hx hb dL_law_1579 dL_law_1580 (by decide) (fun _ => ?_) (fun z => absurd (by rw [hval, ef1]) z)
    refine lv_goto (tgt := 2238) hx hb dL_law_1585 (by decide) ?_
    exact W.widen (by omega) (by omega) (kk _ _ _ _ hLI I hS (lv_sub hl [2, 3, 4, 5, 6] rfl))
