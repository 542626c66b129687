set_option maxHeartbeats 4000000 in
set_option maxRecDepth 100000 in
theorem lc_member {p : Program} {l : Launch} {e : Env} {s : State} {m : MethodId} {below : List Frame} {meth : Method} {c : Code} {b L : Nat} {xs : Nat → Int32} {Q : State → Prop} {D : va_G} {E : Nat → ClassId} {h : XW} {H : Heap} {locs : List Loc} {cells slots X r ou i : Nat} {ls : Array Slot} (F : LF p l s m c b L xs) (hI : LI E X r ou h) (I : XI s.heap.size D E h s H) (hS : va_S (xA s.heap.size) s.heap H locs) (hcs : cells + 9 ≤ 601024 ∧ slots + 65 ≤ 7293034) (hi : i + 6 ≤ L) (hL : L ≤ 3072) (hl : lv_has ls 8 [(0, .ref b), (1, .ref X), (2, .ref r), (3, .ref ou), (4, .int (nI i))])
    (kk : ∀ (h2 : XW) (H2 : Heap) (locs2 : List Loc) (ls2 : Array Slot), LI E X r ou h2 → XI s.heap.size D E h2 s H2 → va_S (xA s.heap.size) s.heap H2 locs2 → lv_has ls2 8 [(0, .ref b), (1, .ref X), (2, .ref r), (3, .ref ou), (4, .int (nI i))] → W p l e room_1 s m #[Value.ref b] below meth c H2 locs2 (cells + 9) (slots + 65) Q (F0 m 2238 ls2 [])) : W p l e room_1 s m #[Value.ref b] below meth c H locs cells slots Q (F0 m 188 ls []) := by
  obtain ⟨hx, hb, hml, hown, hts, hX, hbl, hCa, hlst⟩ := F
  obtain ⟨σ, τ, th, ad, fa, ar, fo, hR, rfl, hM, hou, ho, hRel, hW⟩ := hI
  have hMW := hRel.MW hW
  have hbA : ¬ xA s.heap.size b := Nat.not_le.mpr hbl
  have q := q_member hRel hW th
  refine lv_aload_n hx hb dL_law_188 rfl (lv_at hl 1 rfl) ?_
  refine lv_aload_n hx hb dL_law_189 rfl (lv_at hl 3 rfl) ?_
  refine xcsW (As := [.ref (ad 0 0), .ref ou]) (rest := []) ⟨hx, hb, hml, hown, hts⟩ (mL_member l s.heap.size D E h hlst (lPr r ou ar) τ ad fa hR hW ou fo (Or.inl rfl) ho (hE1 q)) (vx_cwSW 2 hts gL_law_L_member rfl rfl rfl (by decide +kernel) ⟨Nat.le_of_ble_eq_true rfl, Nat.le_of_ble_eq_true rfl⟩) I hCa hS rfl hl.1 rfl (Nat.le_of_ble_eq_true rfl) dL_law_190 ⟨show cells + 4 ≤ 601024 by omega, show slots + 65 ≤ 7293034 by omega⟩ (fun v9 h1 H locs q9 I hS => ?_)
  obtain ⟨rfl, τ1, ad1, fa1, fo1, hRel1, hW1, hR1, h00, hpr, ho1, hans⟩ := l_post (by decide) hR rfl hW ho q q9
  obtain ⟨k1, ek1⟩ : ∃ y, y = (fX8_member σ th).2.2 := ⟨_, rfl⟩
  refine W.eq (g2 := F0 m 193 ls [.int (fX8_member σ th).2.2]) rfl ?_
  refine xtop (show Value.int (fX8_member σ th).2.2 = .int k1 by rw [ek1]) ?_
  refine lv_istore (lv' := [(5, .int k1), (0, .ref b), (1, .ref (ad 0 0)), (2, .ref r), (3, .ref ou), (4, .int (nI i))]) hx hb dL_law_193 hl (by decide) rfl (fun ls hl => ?_)
  have hM1 : RM E σ th r (arN ar H.size) h1 := (hM.keep (hpr r (Or.inr (Or.inl rfl)) hou.1.symm) (fun k hk ha => hpr (ar k) (Or.inr (Or.inr ⟨k, hk, ha, rfl⟩)) (hou.2 k hk ha).symm)).re (fun b e he => I.lt b e he)
  have hB1 : ∀ b e, h1 b = some e → b < H.size := fun b e he => I.lt b e he
  refine lv_aload_n hx hb dL_law_195 rfl (lv_at hl 3 rfl) ?_
  refine xcvQ (As := ([] : List Value)) (rest := []) ⟨hx, hb, hml, hown, hts⟩ (mX8_member l s.heap.size D E h1 σ th r (arN ar H.size) hM1 hMW) (cwV 0 hts gL_law_X8_member rfl rfl rfl (by decide +kernel) ⟨Nat.le_of_ble_eq_true rfl, Nat.le_of_ble_eq_true rfl⟩) I hS hM1.1 rfl rfl hl.1 rfl (Nat.le_of_ble_eq_true rfl) dL_law_196 ⟨show cells + 4 + 0 ≤ 601024 by omega, show slots + 65 + 0 ≤ 7293034 by omega⟩ (fun v9 h2 H2 locs q9 I hS => ?_)
  obtain ⟨rfl, hM2, hF2⟩ := q9
  obtain ⟨ho2, hLI⟩ := l_next hR1 h00 hM2 hB1 hF2 hou ho1 hRel1 hW1
  obtain ⟨f1, ef1⟩ : ∃ y, y = (fX8_member σ th).1 := ⟨_, rfl⟩
  refine W.eq (g2 := F0 m 199 ls [.int (fX8_member σ th).1]) rfl ?_
  refine xtop (show Value.int (fX8_member σ th).1 = .int f1 by rw [ef1]) ?_
  refine lv_istore (lv' := [(6, .int f1), (5, .int k1), (0, .ref b), (1, .ref (ad 0 0)), (2, .ref r), (3, .ref ou), (4, .int (nI i))]) hx hb dL_law_199 hl (by decide) rfl (fun ls hl => ?_)
  refine lv_aload_n hx hb dL_law_201 rfl (lv_at hl 4 rfl) ?_
  refine xcvR (As := ([] : List Value)) (rest := []) ⟨hx, hb, hml, hown, hts⟩ (mX8_thrown l s.heap.size D E h2 _ _ r _ hM2 (hRel1.MW hW1)) (cwV 0 hts gL_law_X8_thrown rfl rfl rfl (by decide +kernel) ⟨Nat.le_of_ble_eq_true rfl, Nat.le_of_ble_eq_true rfl⟩) I hM2.1 rfl rfl hl.1 rfl (Nat.le_of_ble_eq_true rfl) dL_law_202 ⟨show cells + 4 + 0 + 0 ≤ 601024 by omega, show slots + 65 + 0 + 0 ≤ 7293034 by omega⟩ ?_
  refine W.eq (g2 := F0 m 205 ls [.int (fX8_member σ th).2.2]) rfl ?_
  refine xtop (show Value.int (fX8_member σ th).2.2 = .int k1 by rw [ek1]) ?_
  refine lv_iload hx hb dL_law_205 (lv_at hl 1 rfl) ?_
  refine lv_icmp_eq (tgt := 212) hx hb dL_law_207 (by decide) (fun c1 => ?_) (fun c1 => absurd rfl c1)
  refine lv_iload hx hb dL_law_212 (lv_at hl 1 rfl) ?_
  refine lv_if_ne (tgt := 229) hx hb dL_law_214 (by decide) (fun c2 => ?_) (fun c2 => ?_)
  · refine lv_goto (tgt := 2238) hx hb dL_law_229 (by decide) ?_
    exact W.widen (by omega) (by omega) (kk _ _ _ _ hLI I hS (lv_sub hl [2, 3, 4, 5, 6] rfl))
  · have hk0 : (fX8_member σ th).2.2 = nI 0 := by rw [← ek1]; exact c2
    have hval : fo1 0 = (fX8_member σ th).1.toInt64 := hans hk0 _ rfl
    refine lv_aload_n hx hb dL_law_217 rfl (lv_at hl 5 rfl) ?_
    refine lv_iconst (v := nI 0) hx hb dL_law_218 (by decide) ?_
    refine xlald (i := 0) (n := 1) hx hb I ho2 (by decide) (by decide) dL_law_219 ?_
    refine lv_iload hx hb dL_law_220 (lv_at hl 0 rfl) ?_
    refine lv_i2l (v := f1.toInt64) hx hb dL_law_222 rfl ?_
    refine xl_eq (tgt := 229) hx hb dL_law_223 dL_law_224 (by decide) (fun _ => ?_) (fun z => absurd (by rw [hval, ef1]) z)
    refine lv_goto (tgt := 2238) hx hb dL_law_229 (by decide) ?_
    exact W.widen (by omega) (by omega) (kk _ _ _ _ hLI I hS (lv_sub hl [2, 3, 4, 5, 6] rfl))
set_option maxHeartbeats 4000000 in
set_option maxRecDepth 100000 in
theorem lc_ship {p : Program} {l : Launch} {e : Env} {s : State} {m : MethodId} {below : List Frame} {meth : Method} {c : Code} {b L : Nat} {xs : Nat → Int32} {Q : State → Prop} {D : va_G} {E : Nat → ClassId} {h : XW} {H : Heap} {locs : List Loc} {cells slots X r ou i : Nat} {ls : Array Slot} (F : LF p l s m c b L xs) (hI : LI E X r ou h) (I : XI s.heap.size D E h s H) (hS : va_S (xA s.heap.size) s.heap H locs) (hcs : cells + 9 ≤ 601024 ∧ slots + 65 ≤ 7293034) (hi : i + 6 ≤ L) (hL : L ≤ 3072) (hl : lv_has ls 8 [(0, .ref b), (1, .ref X), (2, .ref r), (3, .ref ou), (4, .int (nI i))])
    (kk : ∀ (h2 : XW) (H2 : Heap) (locs2 : List Loc) (ls2 : Array Slot), LI E X r ou h2 → XI s.heap.size D E h2 s H2 → va_S (xA s.heap.size) s.heap H2 locs2 → lv_has ls2 8 [(0, .ref b), (1, .ref X), (2, .ref r), (3, .ref ou), (4, .int (nI i))] → W p l e room_1 s m #[Value.ref b] below meth c H2 locs2 (cells + 9) (slots + 65) Q (F0 m 2238 ls2 [])) : W p l e room_1 s m #[Value.ref b] below meth c H locs cells slots Q (F0 m 232 ls []) := by
  obtain ⟨hx, hb, hml, hown, hts, hX, hbl, hCa, hlst⟩ := F
  obtain ⟨σ, τ, th, ad, fa, ar, fo, hR, rfl, hM, hou, ho, hRel, hW⟩ := hI
  have hMW := hRel.MW hW
  have hbA : ¬ xA s.heap.size b := Nat.not_le.mpr hbl
  have v1 : vp_in (nI i + nI 1) L := by rw [nI_add]; exact vp_in_nI (by omega) (by omega)
  obtain ⟨a1, ea1⟩ : ∃ y : Int32, y = xs (nI i + nI 1).toNatClampNeg := ⟨_, rfl⟩
  have e1 : Value.int (xs (nI i + nI 1).toNatClampNeg) = .int a1 := by rw [ea1]
  have v2 : vp_in (nI i + nI 2) L := by rw [nI_add]; exact vp_in_nI (by omega) (by omega)
  obtain ⟨a2, ea2⟩ : ∃ y : Int32, y = xs (nI i + nI 2).toNatClampNeg := ⟨_, rfl⟩
  have e2 : Value.int (xs (nI i + nI 2).toNatClampNeg) = .int a2 := by rw [ea2]
  have q := q_ship hRel hW th a1 a2
  refine lv_aload_n hx hb dL_law_232 rfl (lv_at hl 1 rfl) ?_
  refine lv_aload_n hx hb dL_law_233 rfl (lv_at hl 0 rfl) ?_
  refine lv_iload hx hb dL_law_234 (lv_at hl 4 rfl) ?_
  refine lv_iconst (v := nI 1) hx hb dL_law_236 (by decide) ?_
  refine lv_iadd hx hb dL_law_237 ?_
  refine va_sld hx hb hX hbl hbA hS v1 dL_law_238 ?_
  refine xtop e1 ?_
  refine lv_aload_n hx hb dL_law_239 rfl (lv_at hl 0 rfl) ?_
  refine lv_iload hx hb dL_law_240 (lv_at hl 4 rfl) ?_
  refine lv_iconst (v := nI 2) hx hb dL_law_242 (by decide) ?_
  refine lv_iadd hx hb dL_law_243 ?_
  refine va_sld hx hb hX hbl hbA hS v2 dL_law_244 ?_
  refine xtop e2 ?_
  refine lv_aload_n hx hb dL_law_245 rfl (lv_at hl 3 rfl) ?_
  refine xcsW (As := [.ref (ad 0 0), .int a1, .int a2, .ref ou]) (rest := []) ⟨hx, hb, hml, hown, hts⟩ (mL_ship l s.heap.size D E h hlst (lPr r ou ar) τ ad fa hR hW ou fo (Or.inl rfl) ho a1 a2 (hE3 q)) (vx_cwSW 4 hts gL_law_L_ship rfl rfl rfl (by decide +kernel) ⟨Nat.le_of_ble_eq_true rfl, Nat.le_of_ble_eq_true rfl⟩) I hCa hS rfl hl.1 rfl (Nat.le_of_ble_eq_true rfl) dL_law_246 ⟨show cells + 3 ≤ 601024 by omega, show slots + 18 ≤ 7293034 by omega⟩ (fun v9 h1 H locs q9 I hS => ?_)
  obtain ⟨rfl, τ1, ad1, fa1, fo1, hRel1, hW1, hR1, h00, hpr, ho1, hans⟩ := l_post (by decide) hR rfl hW ho q q9
  obtain ⟨k1, ek1⟩ : ∃ y, y = (fX8_ship σ th a1 a2).2.2 := ⟨_, rfl⟩
  refine W.eq (g2 := F0 m 249 ls [.int (fX8_ship σ th a1 a2).2.2]) rfl ?_
  refine xtop (show Value.int (fX8_ship σ th a1 a2).2.2 = .int k1 by rw [ek1]) ?_
  refine lv_istore (lv' := [(5, .int k1), (0, .ref b), (1, .ref (ad 0 0)), (2, .ref r), (3, .ref ou), (4, .int (nI i))]) hx hb dL_law_249 hl (by decide) rfl (fun ls hl => ?_)
  have hM1 : RM E σ th r (arN ar H.size) h1 := (hM.keep (hpr r (Or.inr (Or.inl rfl)) hou.1.symm) (fun k hk ha => hpr (ar k) (Or.inr (Or.inr ⟨k, hk, ha, rfl⟩)) (hou.2 k hk ha).symm)).re (fun b e he => I.lt b e he)
  have hB1 : ∀ b e, h1 b = some e → b < H.size := fun b e he => I.lt b e he
  refine lv_aload_n hx hb dL_law_251 rfl (lv_at hl 3 rfl) ?_
  refine lv_aload_n hx hb dL_law_252 rfl (lv_at hl 1 rfl) ?_
  refine lv_iload hx hb dL_law_253 (lv_at hl 5 rfl) ?_
  refine lv_iconst (v := nI 1) hx hb dL_law_255 (by decide) ?_
  refine lv_iadd hx hb dL_law_256 ?_
  refine va_sld hx hb hX hbl hbA hS v1 dL_law_257 ?_
  refine xtop e1 ?_
  refine lv_aload_n hx hb dL_law_258 rfl (lv_at hl 1 rfl) ?_
  refine lv_iload hx hb dL_law_259 (lv_at hl 5 rfl) ?_
  refine lv_iconst (v := nI 2) hx hb dL_law_261 (by decide) ?_
  refine lv_iadd hx hb dL_law_262 ?_
  refine va_sld hx hb hX hbl hbA hS v2 dL_law_263 ?_
  refine xtop e2 ?_
  refine xcvQ (As := [.int a1, .int a2]) (rest := []) ⟨hx, hb, hml, hown, hts⟩ (mX8_ship l s.heap.size D E h1 σ th r (arN ar H.size) hM1 hMW a1 a2) (cwV 2 hts gL_law_X8_ship rfl rfl rfl (by decide +kernel) ⟨Nat.le_of_ble_eq_true rfl, Nat.le_of_ble_eq_true rfl⟩) I hS hM1.1 rfl rfl hl.1 rfl (Nat.le_of_ble_eq_true rfl) dL_law_264 ⟨show cells + 3 + 0 ≤ 601024 by omega, show slots + 18 + 0 ≤ 7293034 by omega⟩ (fun v9 h2 H2 locs q9 I hS => ?_)
  obtain ⟨rfl, hM2, hF2⟩ := q9
  obtain ⟨ho2, hLI⟩ := l_next hR1 h00 hM2 hB1 hF2 hou ho1 hRel1 hW1
  obtain ⟨f1, ef1⟩ : ∃ y, y = (fX8_ship σ th a1 a2).1 := ⟨_, rfl⟩
  refine W.eq (g2 := F0 m 267 ls [.int (fX8_ship σ th a1 a2).1]) rfl ?_
  refine xtop (show Value.int (fX8_ship σ th a1 a2).1 = .int f1 by rw [ef1]) ?_
  refine lv_istore (lv' := [(6, .int f1), (5, .int k1), (0, .ref b), (1, .ref (ad 0 0)), (2, .ref r), (3, .ref ou), (4, .int (nI i))]) hx hb dL_law_267 hl (by decide) rfl (fun ls hl => ?_)
  refine lv_aload_n hx hb dL_law_269 rfl (lv_at hl 4 rfl) ?_
  refine xcvR (As := ([] : List Value)) (rest := []) ⟨hx, hb, hml, hown, hts⟩ (mX8_thrown l s.heap.size D E h2 _ _ r _ hM2 (hRel1.MW hW1)) (cwV 0 hts gL_law_X8_thrown rfl rfl rfl (by decide +kernel) ⟨Nat.le_of_ble_eq_true rfl, Nat.le_of_ble_eq_true rfl⟩) I hM2.1 rfl rfl hl.1 rfl (Nat.le_of_ble_eq_true rfl) dL_law_270 ⟨show cells + 3 + 0 + 0 ≤ 601024 by omega, show slots + 18 + 0 + 0 ≤ 7293034 by omega⟩ ?_
  refine W.eq (g2 := F0 m 273 ls [.int (fX8_ship σ th a1 a2).2.2]) rfl ?_
  refine xtop (show Value.int (fX8_ship σ th a1 a2).2.2 = .int k1 by rw [ek1]) ?_
  refine lv_iload hx hb dL_law_273 (lv_at hl 1 rfl) ?_
  refine lv_icmp_eq (tgt := 280) hx hb dL_law_275 (by decide) (fun c1 => ?_) (fun c1 => absurd rfl c1)
  refine lv_iload hx hb dL_law_280 (lv_at hl 1 rfl) ?_
  refine lv_if_ne (tgt := 297) hx hb dL_law_282 (by decide) (fun c2 => ?_) (fun c2 => ?_)
  · refine lv_goto (tgt := 2238) hx hb dL_law_297 (by decide) ?_
    exact W.widen (by omega) (by omega) (kk _ _ _ _ hLI I hS (lv_sub hl [2, 3, 4, 5, 6] rfl))
  · have hk0 : (fX8_ship σ th a1 a2).2.2 = nI 0 := by rw [← ek1]; exact c2
    have hval : fo1 0 = (fX8_ship σ th a1 a2).1.toInt64 := hans hk0 _ rfl
    refine lv_aload_n hx hb dL_law_285 rfl (lv_at hl 5 rfl) ?_
    refine lv_iconst (v := nI 0) hx hb dL_law_286 (by decide) ?_
    refine xlald (i := 0) (n := 1) hx hb I ho2 (by decide) (by decide) dL_law_287 ?_
    refine lv_iload hx hb dL_law_288 (lv_at hl 0 rfl) ?_
    refine lv_i2l (v := f1.toInt64) hx hb dL_law_290 rfl ?_
    refine xl_eq (tgt := 297) hx hb dL_law_291 dL_law_292 (by decide) (fun _ => ?_) (fun z => absurd (by rw [hval, ef1]) z)
    refine lv_goto (tgt := 2238) hx hb dL_law_297 (by decide) ?_
    exact W.widen (by omega) (by omega) (kk _ _ _ _ hLI I hS (lv_sub hl [2, 3, 4, 5, 6] rfl))
set_option maxHeartbeats 4000000 in
set_option maxRecDepth 100000 in
theorem lc_enter {p : Program} {l : Launch} {e : Env} {s : State} {m : MethodId} {below : List Frame} {meth : Method} {c : Code} {b L : Nat} {xs : Nat → Int32} {Q : State → Prop} {D : va_G} {E : Nat → ClassId} {h : XW} {H : Heap} {locs : List Loc} {cells slots X r ou i : Nat} {ls : Array Slot} (F : LF p l s m c b L xs) (hI : LI E X r ou h) (I : XI s.heap.size D E h s H) (hS : va_S (xA s.heap.size) s.heap H locs) (hcs : cells + 9 ≤ 601024 ∧ slots + 65 ≤ 7293034) (hi : i + 6 ≤ L) (hL : L ≤ 3072) (hl : lv_has ls 8 [(0, .ref b), (1, .ref X), (2, .ref r), (3, .ref ou), (4, .int (nI i))])
    (kk : ∀ (h2 : XW) (H2 : Heap) (locs2 : List Loc) (ls2 : Array Slot), LI E X r ou h2 → XI s.heap.size D E h2 s H2 → va_S (xA s.heap.size) s.heap H2 locs2 → lv_has ls2 8 [(0, .ref b), (1, .ref X), (2, .ref r), (3, .ref ou), (4, .int (nI i))] → W p l e room_1 s m #[Value.ref b] below meth c H2 locs2 (cells + 9) (slots + 65) Q (F0 m 2238 ls2 [])) : W p l e room_1 s m #[Value.ref b] below meth c H locs cells slots Q (F0 m 300 ls []) := by
  obtain ⟨hx, hb, hml, hown, hts, hX, hbl, hCa, hlst⟩ := F
  obtain ⟨σ, τ, th, ad, fa, ar, fo, hR, rfl, hM, hou, ho, hRel, hW⟩ := hI
  have hMW := hRel.MW hW
  have hbA : ¬ xA s.heap.size b := Nat.not_le.mpr hbl
  have v1 : vp_in (nI i + nI 1) L := by rw [nI_add]; exact vp_in_nI (by omega) (by omega)
  obtain ⟨a1, ea1⟩ : ∃ y : Int32, y = xs (nI i + nI 1).toNatClampNeg := ⟨_, rfl⟩
  have e1 : Value.int (xs (nI i + nI 1).toNatClampNeg) = .int a1 := by rw [ea1]
  have q := q_enter hRel hW th a1
  refine lv_aload_n hx hb dL_law_300 rfl (lv_at hl 1 rfl) ?_
  refine lv_aload_n hx hb dL_law_301 rfl (lv_at hl 0 rfl) ?_
  refine lv_iload hx hb dL_law_302 (lv_at hl 4 rfl) ?_
  refine lv_iconst (v := nI 1) hx hb dL_law_304 (by decide) ?_
  refine lv_iadd hx hb dL_law_305 ?_
  refine va_sld hx hb hX hbl hbA hS v1 dL_law_306 ?_
  refine xtop e1 ?_
  refine xcsW (As := [.ref (ad 0 0), .int a1]) (rest := []) ⟨hx, hb, hml, hown, hts⟩ (mL_enter l s.heap.size D E h hlst (lPr r ou ar) τ ad fa hR hW ou fo (Or.inl rfl) ho a1 (hE2 q)) (vx_cwSW 2 hts gL_law_L_enter rfl rfl rfl (by decide +kernel) ⟨Nat.le_of_ble_eq_true rfl, Nat.le_of_ble_eq_true rfl⟩) I hCa hS rfl hl.1 rfl (Nat.le_of_ble_eq_true rfl) dL_law_307 ⟨show cells + 2 ≤ 601024 by omega, show slots + 12 ≤ 7293034 by omega⟩ (fun v9 h1 H locs q9 I hS => ?_)
  obtain ⟨rfl, τ1, ad1, fa1, fo1, hRel1, hW1, hR1, h00, hpr, ho1, hans⟩ := l_post (by decide) hR rfl hW ho q q9
  obtain ⟨k1, ek1⟩ : ∃ y, y = (fX8_enter σ th a1).2 := ⟨_, rfl⟩
  refine W.eq (g2 := F0 m 310 ls [.int (fX8_enter σ th a1).2]) rfl ?_
  refine xtop (show Value.int (fX8_enter σ th a1).2 = .int k1 by rw [ek1]) ?_
  refine lv_istore (lv' := [(5, .int k1), (0, .ref b), (1, .ref (ad 0 0)), (2, .ref r), (3, .ref ou), (4, .int (nI i))]) hx hb dL_law_310 hl (by decide) rfl (fun ls hl => ?_)
  have hM1 : RM E σ th r (arN ar H.size) h1 := (hM.keep (hpr r (Or.inr (Or.inl rfl)) hou.1.symm) (fun k hk ha => hpr (ar k) (Or.inr (Or.inr ⟨k, hk, ha, rfl⟩)) (hou.2 k hk ha).symm)).re (fun b e he => I.lt b e he)
  have hB1 : ∀ b e, h1 b = some e → b < H.size := fun b e he => I.lt b e he
  refine lv_aload_n hx hb dL_law_312 rfl (lv_at hl 3 rfl) ?_
  refine lv_aload_n hx hb dL_law_313 rfl (lv_at hl 1 rfl) ?_
  refine lv_iload hx hb dL_law_314 (lv_at hl 5 rfl) ?_
  refine lv_iconst (v := nI 1) hx hb dL_law_316 (by decide) ?_
  refine lv_iadd hx hb dL_law_317 ?_
  refine va_sld hx hb hX hbl hbA hS v1 dL_law_318 ?_
  refine xtop e1 ?_
  refine xcvQ (As := [.int a1]) (rest := []) ⟨hx, hb, hml, hown, hts⟩ (mX8_enter l s.heap.size D E h1 σ th r (arN ar H.size) hM1 hMW a1) (cwV 1 hts gL_law_X8_enter rfl rfl rfl (by decide +kernel) ⟨Nat.le_of_ble_eq_true rfl, Nat.le_of_ble_eq_true rfl⟩) I hS hM1.1 rfl rfl hl.1 rfl (Nat.le_of_ble_eq_true rfl) dL_law_319 ⟨show cells + 2 + 0 ≤ 601024 by omega, show slots + 12 + 0 ≤ 7293034 by omega⟩ (fun v9 h2 H2 locs q9 I hS => ?_)
  obtain ⟨rfl, hM2, hF2⟩ := q9
  obtain ⟨ho2, hLI⟩ := l_next hR1 h00 hM2 hB1 hF2 hou ho1 hRel1 hW1
  refine W.eq (g2 := F0 m 322 ls []) rfl ?_
  refine lv_aload_n hx hb dL_law_322 rfl (lv_at hl 3 rfl) ?_
  refine xcvR (As := ([] : List Value)) (rest := []) ⟨hx, hb, hml, hown, hts⟩ (mX8_thrown l s.heap.size D E h2 _ _ r _ hM2 (hRel1.MW hW1)) (cwV 0 hts gL_law_X8_thrown rfl rfl rfl (by decide +kernel) ⟨Nat.le_of_ble_eq_true rfl, Nat.le_of_ble_eq_true rfl⟩) I hM2.1 rfl rfl hl.1 rfl (Nat.le_of_ble_eq_true rfl) dL_law_323 ⟨show cells + 2 + 0 + 0 ≤ 601024 by omega, show slots + 12 + 0 + 0 ≤ 7293034 by omega⟩ ?_
  refine W.eq (g2 := F0 m 326 ls [.int (fX8_enter σ th a1).2]) rfl ?_
  refine xtop (show Value.int (fX8_enter σ th a1).2 = .int k1 by rw [ek1]) ?_
  refine lv_iload hx hb dL_law_326 (lv_at hl 0 rfl) ?_
  refine lv_icmp_eq (tgt := 333) hx hb dL_law_328 (by decide) (fun c1 => ?_) (fun c1 => absurd rfl c1)
  refine lv_goto (tgt := 2238) hx hb dL_law_333 (by decide) ?_
  exact W.widen (by omega) (by omega) (kk _ _ _ _ hLI I hS (lv_sub hl [1, 2, 3, 4, 5] rfl))
set_option maxHeartbeats 4000000 in
set_option maxRecDepth 100000 in
theorem lc_leave {p : Program} {l : Launch} {e : Env} {s : State} {m : MethodId} {below : List Frame} {meth : Method} {c : Code} {b L : Nat} {xs : Nat → Int32} {Q : State → Prop} {D : va_G} {E : Nat → ClassId} {h : XW} {H : Heap} {locs : List Loc} {cells slots X r ou i : Nat} {ls : Array Slot} (F : LF p l s m c b L xs) (hI : LI E X r ou h) (I : XI s.heap.size D E h s H) (hS : va_S (xA s.heap.size) s.heap H locs) (hcs : cells + 9 ≤ 601024 ∧ slots + 65 ≤ 7293034) (hi : i + 6 ≤ L) (hL : L ≤ 3072) (hl : lv_has ls 8 [(0, .ref b), (1, .ref X), (2, .ref r), (3, .ref ou), (4, .int (nI i))])
    (kk : ∀ (h2 : XW) (H2 : Heap) (locs2 : List Loc) (ls2 : Array Slot), LI E X r ou h2 → XI s.heap.size D E h2 s H2 → va_S (xA s.heap.size) s.heap H2 locs2 → lv_has ls2 8 [(0, .ref b), (1, .ref X), (2, .ref r), (3, .ref ou), (4, .int (nI i))] → W p l e room_1 s m #[Value.ref b] below meth c H2 locs2 (cells + 9) (slots + 65) Q (F0 m 2238 ls2 [])) : W p l e room_1 s m #[Value.ref b] below meth c H locs cells slots Q (F0 m 336 ls []) := by
  obtain ⟨hx, hb, hml, hown, hts, hX, hbl, hCa, hlst⟩ := F
  obtain ⟨σ, τ, th, ad, fa, ar, fo, hR, rfl, hM, hou, ho, hRel, hW⟩ := hI
  have hMW := hRel.MW hW
  have hbA : ¬ xA s.heap.size b := Nat.not_le.mpr hbl
  have v1 : vp_in (nI i + nI 1) L := by rw [nI_add]; exact vp_in_nI (by omega) (by omega)
  obtain ⟨a1, ea1⟩ : ∃ y : Int32, y = xs (nI i + nI 1).toNatClampNeg := ⟨_, rfl⟩
  have e1 : Value.int (xs (nI i + nI 1).toNatClampNeg) = .int a1 := by rw [ea1]
  have q := q_leave hRel hW th a1
  refine lv_aload_n hx hb dL_law_336 rfl (lv_at hl 1 rfl) ?_
  refine lv_aload_n hx hb dL_law_337 rfl (lv_at hl 0 rfl) ?_
  refine lv_iload hx hb dL_law_338 (lv_at hl 4 rfl) ?_
  refine lv_iconst (v := nI 1) hx hb dL_law_340 (by decide) ?_
  refine lv_iadd hx hb dL_law_341 ?_
  refine va_sld hx hb hX hbl hbA hS v1 dL_law_342 ?_
  refine xtop e1 ?_
  refine lv_aload_n hx hb dL_law_343 rfl (lv_at hl 3 rfl) ?_
  refine xcsW (As := [.ref (ad 0 0), .int a1, .ref ou]) (rest := []) ⟨hx, hb, hml, hown, hts⟩ (mL_leave l s.heap.size D E h hlst (lPr r ou ar) τ ad fa hR hW ou fo (Or.inl rfl) ho a1 (hE2 q)) (vx_cwSW 3 hts gL_law_L_leave rfl rfl rfl (by decide +kernel) ⟨Nat.le_of_ble_eq_true rfl, Nat.le_of_ble_eq_true rfl⟩) I hCa hS rfl hl.1 rfl (Nat.le_of_ble_eq_true rfl) dL_law_344 ⟨show cells + 2 ≤ 601024 by omega, show slots + 12 ≤ 7293034 by omega⟩ (fun v9 h1 H locs q9 I hS => ?_)
  obtain ⟨rfl, τ1, ad1, fa1, fo1, hRel1, hW1, hR1, h00, hpr, ho1, hans⟩ := l_post (by decide) hR rfl hW ho q q9
  obtain ⟨k1, ek1⟩ : ∃ y, y = (fX8_leave σ th a1).2.2 := ⟨_, rfl⟩
  refine W.eq (g2 := F0 m 347 ls [.int (fX8_leave σ th a1).2.2]) rfl ?_
  refine xtop (show Value.int (fX8_leave σ th a1).2.2 = .int k1 by rw [ek1]) ?_
  refine lv_istore (lv' := [(5, .int k1), (0, .ref b), (1, .ref (ad 0 0)), (2, .ref r), (3, .ref ou), (4, .int (nI i))]) hx hb dL_law_347 hl (by decide) rfl (fun ls hl => ?_)
  have hM1 : RM E σ th r (arN ar H.size) h1 := (hM.keep (hpr r (Or.inr (Or.inl rfl)) hou.1.symm) (fun k hk ha => hpr (ar k) (Or.inr (Or.inr ⟨k, hk, ha, rfl⟩)) (hou.2 k hk ha).symm)).re (fun b e he => I.lt b e he)
  have hB1 : ∀ b e, h1 b = some e → b < H.size := fun b e he => I.lt b e he
  refine lv_aload_n hx hb dL_law_349 rfl (lv_at hl 3 rfl) ?_
  refine lv_aload_n hx hb dL_law_350 rfl (lv_at hl 1 rfl) ?_
  refine lv_iload hx hb dL_law_351 (lv_at hl 5 rfl) ?_
  refine lv_iconst (v := nI 1) hx hb dL_law_353 (by decide) ?_
  refine lv_iadd hx hb dL_law_354 ?_
  refine va_sld hx hb hX hbl hbA hS v1 dL_law_355 ?_
  refine xtop e1 ?_
  refine xcvQ (As := [.int a1]) (rest := []) ⟨hx, hb, hml, hown, hts⟩ (mX8_leave l s.heap.size D E h1 σ th r (arN ar H.size) hM1 hMW a1) (cwV 1 hts gL_law_X8_leave rfl rfl rfl (by decide +kernel) ⟨Nat.le_of_ble_eq_true rfl, Nat.le_of_ble_eq_true rfl⟩) I hS hM1.1 rfl rfl hl.1 rfl (Nat.le_of_ble_eq_true rfl) dL_law_356 ⟨show cells + 2 + 0 ≤ 601024 by omega, show slots + 12 + 0 ≤ 7293034 by omega⟩ (fun v9 h2 H2 locs q9 I hS => ?_)
  obtain ⟨rfl, hM2, hF2⟩ := q9
  obtain ⟨ho2, hLI⟩ := l_next hR1 h00 hM2 hB1 hF2 hou ho1 hRel1 hW1
  obtain ⟨f1, ef1⟩ : ∃ y, y = (fX8_leave σ th a1).1 := ⟨_, rfl⟩
  refine W.eq (g2 := F0 m 359 ls [.int (fX8_leave σ th a1).1]) rfl ?_
  refine xtop (show Value.int (fX8_leave σ th a1).1 = .int f1 by rw [ef1]) ?_
  refine lv_istore (lv' := [(6, .int f1), (5, .int k1), (0, .ref b), (1, .ref (ad 0 0)), (2, .ref r), (3, .ref ou), (4, .int (nI i))]) hx hb dL_law_359 hl (by decide) rfl (fun ls hl => ?_)
  refine lv_aload_n hx hb dL_law_361 rfl (lv_at hl 4 rfl) ?_
  refine xcvR (As := ([] : List Value)) (rest := []) ⟨hx, hb, hml, hown, hts⟩ (mX8_thrown l s.heap.size D E h2 _ _ r _ hM2 (hRel1.MW hW1)) (cwV 0 hts gL_law_X8_thrown rfl rfl rfl (by decide +kernel) ⟨Nat.le_of_ble_eq_true rfl, Nat.le_of_ble_eq_true rfl⟩) I hM2.1 rfl rfl hl.1 rfl (Nat.le_of_ble_eq_true rfl) dL_law_362 ⟨show cells + 2 + 0 + 0 ≤ 601024 by omega, show slots + 12 + 0 + 0 ≤ 7293034 by omega⟩ ?_
  refine W.eq (g2 := F0 m 365 ls [.int (fX8_leave σ th a1).2.2]) rfl ?_
  refine xtop (show Value.int (fX8_leave σ th a1).2.2 = .int k1 by rw [ek1]) ?_
  refine lv_iload hx hb dL_law_365 (lv_at hl 1 rfl) ?_
  refine lv_icmp_eq (tgt := 372) hx hb dL_law_367 (by decide) (fun c1 => ?_) (fun c1 => absurd rfl c1)
  refine lv_iload hx hb dL_law_372 (lv_at hl 1 rfl) ?_
  refine lv_if_ne (tgt := 389) hx hb dL_law_374 (by decide) (fun c2 => ?_) (fun c2 => ?_)
  · refine lv_goto (tgt := 2238) hx hb dL_law_389 (by decide) ?_
    exact W.widen (by omega) (by omega) (kk _ _ _ _ hLI I hS (lv_sub hl [2, 3, 4, 5, 6] rfl))
  · have hk0 : (fX8_leave σ th a1).2.2 = nI 0 := by rw [← ek1]; exact c2
    have hval : fo1 0 = (fX8_leave σ th a1).1.toInt64 := hans hk0 _ rfl
    refine lv_aload_n hx hb dL_law_377 rfl (lv_at hl 5 rfl) ?_
    refine lv_iconst (v := nI 0) hx hb dL_law_378 (by decide) ?_
    refine xlald (i := 0) (n := 1) hx hb I ho2 (by decide) (by decide) dL_law_379 ?_
    refine lv_iload hx hb dL_law_380 (lv_at hl 0 rfl) ?_
    refine lv_i2l (v := f1.toInt64) hx hb dL_law_382 rfl ?_
    refine xl_eq (tgt := 389) hx hb dL_law_383 dL_law_384 (by decide) (fun _ => ?_) (fun z => absurd (by rw [hval, ef1]) z)
    refine lv_goto (tgt := 2238) hx hb dL_law_389 (by decide) ?_
    exact W.widen (by omega) (by omega) (kk _ _ _ _ hLI I hS (lv_sub hl [2, 3, 4, 5, 6] rfl))
set_option maxHeartbeats 4000000 in
set_option maxRecDepth 100000 in
theorem lc_pass {p : Program} {l : Launch} {e : Env} {s : State} {m : MethodId} {below : List Frame} {meth : Method} {c : Code} {b L : Nat} {xs : Nat → Int32} {Q : State → Prop} {D : va_G} {E : Nat → ClassId} {h : XW} {H : Heap} {locs : List Loc} {cells slots X r ou i : Nat} {ls : Array Slot} (F : LF p l s m c b L xs) (hI : LI E X r ou h) (I : XI s.heap.size D E h s H) (hS : va_S (xA s.heap.size) s.heap H locs) (hcs : cells + 9 ≤ 601024 ∧ slots + 65 ≤ 7293034) (hi : i + 6 ≤ L) (hL : L ≤ 3072) (hl : lv_has ls 8 [(0, .ref b), (1, .ref X), (2, .ref r), (3, .ref ou), (4, .int (nI i))])
    (kk : ∀ (h2 : XW) (H2 : Heap) (locs2 : List Loc) (ls2 : Array Slot), LI E X r ou h2 → XI s.heap.size D E h2 s H2 → va_S (xA s.heap.size) s.heap H2 locs2 → lv_has ls2 8 [(0, .ref b), (1, .ref X), (2, .ref r), (3, .ref ou), (4, .int (nI i))] → W p l e room_1 s m #[Value.ref b] below meth c H2 locs2 (cells + 9) (slots + 65) Q (F0 m 2238 ls2 [])) : W p l e room_1 s m #[Value.ref b] below meth c H locs cells slots Q (F0 m 392 ls []) := by
  obtain ⟨hx, hb, hml, hown, hts, hX, hbl, hCa, hlst⟩ := F
  obtain ⟨σ, τ, th, ad, fa, ar, fo, hR, rfl, hM, hou, ho, hRel, hW⟩ := hI
  have hMW := hRel.MW hW
  have hbA : ¬ xA s.heap.size b := Nat.not_le.mpr hbl
  have v1 : vp_in (nI i + nI 1) L := by rw [nI_add]; exact vp_in_nI (by omega) (by omega)
  obtain ⟨a1, ea1⟩ : ∃ y : Int32, y = xs (nI i + nI 1).toNatClampNeg := ⟨_, rfl⟩
  have e1 : Value.int (xs (nI i + nI 1).toNatClampNeg) = .int a1 := by rw [ea1]
  have q := q_pass hRel hW th a1
  refine lv_aload_n hx hb dL_law_392 rfl (lv_at hl 1 rfl) ?_
  refine lv_aload_n hx hb dL_law_393 rfl (lv_at hl 0 rfl) ?_
  refine lv_iload hx hb dL_law_394 (lv_at hl 4 rfl) ?_
  refine lv_iconst (v := nI 1) hx hb dL_law_396 (by decide) ?_
  refine lv_iadd hx hb dL_law_397 ?_
  refine va_sld hx hb hX hbl hbA hS v1 dL_law_398 ?_
  refine xtop e1 ?_
  refine lv_aload_n hx hb dL_law_399 rfl (lv_at hl 3 rfl) ?_
  refine xcsW (As := [.ref (ad 0 0), .int a1, .ref ou]) (rest := []) ⟨hx, hb, hml, hown, hts⟩ (mL_pass l s.heap.size D E h hlst (lPr r ou ar) τ ad fa hR hW ou fo (Or.inl rfl) ho a1 (hE2 q)) (vx_cwSW 3 hts gL_law_L_pass rfl rfl rfl (by decide +kernel) ⟨Nat.le_of_ble_eq_true rfl, Nat.le_of_ble_eq_true rfl⟩) I hCa hS rfl hl.1 rfl (Nat.le_of_ble_eq_true rfl) dL_law_400 ⟨show cells + 2 ≤ 601024 by omega, show slots + 12 ≤ 7293034 by omega⟩ (fun v9 h1 H locs q9 I hS => ?_)
  obtain ⟨rfl, τ1, ad1, fa1, fo1, hRel1, hW1, hR1, h00, hpr, ho1, hans⟩ := l_post (by decide) hR rfl hW ho q q9
  obtain ⟨k1, ek1⟩ : ∃ y, y = (fX8_pass σ th a1).2.2 := ⟨_, rfl⟩
  refine W.eq (g2 := F0 m 403 ls [.int (fX8_pass σ th a1).2.2]) rfl ?_
  refine xtop (show Value.int (fX8_pass σ th a1).2.2 = .int k1 by rw [ek1]) ?_
  refine lv_istore (lv' := [(5, .int k1), (0, .ref b), (1, .ref (ad 0 0)), (2, .ref r), (3, .ref ou), (4, .int (nI i))]) hx hb dL_law_403 hl (by decide) rfl (fun ls hl => ?_)
  have hM1 : RM E σ th r (arN ar H.size) h1 := (hM.keep (hpr r (Or.inr (Or.inl rfl)) hou.1.symm) (fun k hk ha => hpr (ar k) (Or.inr (Or.inr ⟨k, hk, ha, rfl⟩)) (hou.2 k hk ha).symm)).re (fun b e he => I.lt b e he)
  have hB1 : ∀ b e, h1 b = some e → b < H.size := fun b e he => I.lt b e he
  refine lv_aload_n hx hb dL_law_405 rfl (lv_at hl 3 rfl) ?_
  refine lv_aload_n hx hb dL_law_406 rfl (lv_at hl 1 rfl) ?_
  refine lv_iload hx hb dL_law_407 (lv_at hl 5 rfl) ?_
  refine lv_iconst (v := nI 1) hx hb dL_law_409 (by decide) ?_
  refine lv_iadd hx hb dL_law_410 ?_
  refine va_sld hx hb hX hbl hbA hS v1 dL_law_411 ?_
  refine xtop e1 ?_
  refine xcvQ (As := [.int a1]) (rest := []) ⟨hx, hb, hml, hown, hts⟩ (mX8_pass l s.heap.size D E h1 σ th r (arN ar H.size) hM1 hMW a1) (cwV 1 hts gL_law_X8_pass rfl rfl rfl (by decide +kernel) ⟨Nat.le_of_ble_eq_true rfl, Nat.le_of_ble_eq_true rfl⟩) I hS hM1.1 rfl rfl hl.1 rfl (Nat.le_of_ble_eq_true rfl) dL_law_412 ⟨show cells + 2 + 0 ≤ 601024 by omega, show slots + 12 + 0 ≤ 7293034 by omega⟩ (fun v9 h2 H2 locs q9 I hS => ?_)
  obtain ⟨rfl, hM2, hF2⟩ := q9
  obtain ⟨ho2, hLI⟩ := l_next hR1 h00 hM2 hB1 hF2 hou ho1 hRel1 hW1
  obtain ⟨f1, ef1⟩ : ∃ y, y = (fX8_pass σ th a1).1 := ⟨_, rfl⟩
  refine W.eq (g2 := F0 m 415 ls [.int (fX8_pass σ th a1).1]) rfl ?_
  refine xtop (show Value.int (fX8_pass σ th a1).1 = .int f1 by rw [ef1]) ?_
  refine lv_istore (lv' := [(6, .int f1), (5, .int k1), (0, .ref b), (1, .ref (ad 0 0)), (2, .ref r), (3, .ref ou), (4, .int (nI i))]) hx hb dL_law_415 hl (by decide) rfl (fun ls hl => ?_)
  refine lv_aload_n hx hb dL_law_417 rfl (lv_at hl 4 rfl) ?_
  refine xcvR (As := ([] : List Value)) (rest := []) ⟨hx, hb, hml, hown, hts⟩ (mX8_thrown l s.heap.size D E h2 _ _ r _ hM2 (hRel1.MW hW1)) (cwV 0 hts gL_law_X8_thrown rfl rfl rfl (by decide +kernel) ⟨Nat.le_of_ble_eq_true rfl, Nat.le_of_ble_eq_true rfl⟩) I hM2.1 rfl rfl hl.1 rfl (Nat.le_of_ble_eq_true rfl) dL_law_418 ⟨show cells + 2 + 0 + 0 ≤ 601024 by omega, show slots + 12 + 0 + 0 ≤ 7293034 by omega⟩ ?_
  refine W.eq (g2 := F0 m 421 ls [.int (fX8_pass σ th a1).2.2]) rfl ?_
  refine xtop (show Value.int (fX8_pass σ th a1).2.2 = .int k1 by rw [ek1]) ?_
  refine lv_iload hx hb dL_law_421 (lv_at hl 1 rfl) ?_
  refine lv_icmp_eq (tgt := 428) hx hb dL_law_423 (by decide) (fun c1 => ?_) (fun c1 => absurd rfl c1)
  refine lv_iload hx hb dL_law_428 (lv_at hl 1 rfl) ?_
  refine lv_if_ne (tgt := 445) hx hb dL_law_430 (by decide) (fun c2 => ?_) (fun c2 => ?_)
  · refine lv_goto (tgt := 2238) hx hb dL_law_445 (by decide) ?_
    exact W.widen (by omega) (by omega) (kk _ _ _ _ hLI I hS (lv_sub hl [2, 3, 4, 5, 6] rfl))
  · have hk0 : (fX8_pass σ th a1).2.2 = nI 0 := by rw [← ek1]; exact c2
    have hval : fo1 0 = (fX8_pass σ th a1).1.toInt64 := hans hk0 _ rfl
    refine lv_aload_n hx hb dL_law_433 rfl (lv_at hl 5 rfl) ?_
    refine lv_iconst (v := nI 0) hx hb dL_law_434 (by decide) ?_
    refine xlald (i := 0) (n := 1) hx hb I ho2 (by decide) (by decide) dL_law_435 ?_
    refine lv_iload hx hb dL_law_436 (lv_at hl 0 rfl) ?_
    refine lv_i2l (v := f1.toInt64) hx hb dL_law_438 rfl ?_
    refine xl_eq (tgt := 445) hx hb dL_law_439 dL_law_440 (by decide) (fun _ => ?_) (fun z => absurd (by rw [hval, ef1]) z)
    refine lv_goto (tgt := 2238) hx hb dL_law_445 (by decide) ?_
    exact W.widen (by omega) (by omega) (kk _ _ _ _ hLI I hS (lv_sub hl [2, 3, 4, 5, 6] rfl))
set_option maxHeartbeats 4000000 in
set_option maxRecDepth 100000 in
theorem lc_day {p : Program} {l : Launch} {e : Env} {s : State} {m : MethodId} {below : List Frame} {meth : Method} {c : Code} {b L : Nat} {xs : Nat → Int32} {Q : State → Prop} {D : va_G} {E : Nat → ClassId} {h : XW} {H : Heap} {locs : List Loc} {cells slots X r ou i : Nat} {ls : Array Slot} (F : LF p l s m c b L xs) (hI : LI E X r ou h) (I : XI s.heap.size D E h s H) (hS : va_S (xA s.heap.size) s.heap H locs) (hcs : cells + 9 ≤ 601024 ∧ slots + 65 ≤ 7293034) (hi : i + 6 ≤ L) (hL : L ≤ 3072) (hl : lv_has ls 8 [(0, .ref b), (1, .ref X), (2, .ref r), (3, .ref ou), (4, .int (nI i))])
    (kk : ∀ (h2 : XW) (H2 : Heap) (locs2 : List Loc) (ls2 : Array Slot), LI E X r ou h2 → XI s.heap.size D E h2 s H2 → va_S (xA s.heap.size) s.heap H2 locs2 → lv_has ls2 8 [(0, .ref b), (1, .ref X), (2, .ref r), (3, .ref ou), (4, .int (nI i))] → W p l e room_1 s m #[Value.ref b] below meth c H2 locs2 (cells + 9) (slots + 65) Q (F0 m 2238 ls2 [])) : W p l e room_1 s m #[Value.ref b] below meth c H locs cells slots Q (F0 m 448 ls []) := by
  obtain ⟨hx, hb, hml, hown, hts, hX, hbl, hCa, hlst⟩ := F
  obtain ⟨σ, τ, th, ad, fa, ar, fo, hR, rfl, hM, hou, ho, hRel, hW⟩ := hI
  have hMW := hRel.MW hW
  have hbA : ¬ xA s.heap.size b := Nat.not_le.mpr hbl
  refine lv_aload_n hx hb dL_law_448 rfl (lv_at hl 1 rfl) ?_
  refine xcvR (As := ([] : List Value)) (rest := []) ⟨hx, hb, hml, hown, hts⟩ (mX7_day l s.heap.size D E h (lPr r ou ar) τ ad fa hR hW) (cwV 0 hts gL_law_X7_day rfl rfl rfl (by decide +kernel) ⟨Nat.le_of_ble_eq_true rfl, Nat.le_of_ble_eq_true rfl⟩) I hR.f0 rfl rfl hl.1 rfl (Nat.le_of_ble_eq_true rfl) dL_law_449 ⟨show cells + 0 ≤ 601024 by omega, show slots + 0 ≤ 7293034 by omega⟩ ?_
  refine W.eq (g2 := F0 m 452 ls [.int (fX7_day τ)]) rfl ?_
  have hM1 : RM E σ th r (arN ar H.size) h := hM.re (fun b e he => I.lt b e he)
  have hB1 : ∀ b e, h b = some e → b < H.size := fun b e he => I.lt b e he
  refine lv_aload_n hx hb dL_law_452 rfl (lv_at hl 2 rfl) ?_
  refine xcvQ (As := ([] : List Value)) (rest := [.int (fX7_day τ)]) ⟨hx, hb, hml, hown, hts⟩ (mX8_day l s.heap.size D E h σ th r (arN ar H.size) hM1 hMW) (cwV 0 hts gL_law_X8_day rfl rfl rfl (by decide +kernel) ⟨Nat.le_of_ble_eq_true rfl, Nat.le_of_ble_eq_true rfl⟩) I hS hM1.1 rfl rfl hl.1 rfl (Nat.le_of_ble_eq_true rfl) dL_law_453 ⟨show cells + 0 + 0 ≤ 601024 by omega, show slots + 0 + 0 ≤ 7293034 by omega⟩ (fun v9 h2 H2 locs q9 I hS => ?_)
  obtain ⟨rfl, hM2, hF2⟩ := q9
  obtain ⟨ho2, hLI⟩ := l_next hR rfl hM2 hB1 hF2 hou ho hRel hW
  refine W.eq (g2 := F0 m 456 ls [.int (fX8_day σ th).1, .int (fX7_day τ)]) rfl ?_
  have hval : fX7_day τ = (fX8_day σ th).1 := by show nI (cN τ 5) = nI (mN σ 1); rw [hRel.1.1]
  refine lv_icmp_eq (tgt := 2238) hx hb dL_law_456 (by decide) (fun _ => ?_) (fun z => absurd hval z)
  exact W.widen (by omega) (by omega) (kk _ _ _ _ hLI I hS (lv_sub hl [0, 1, 2, 3, 4] rfl))
set_option maxHeartbeats 4000000 in
set_option maxRecDepth 100000 in
theorem lc_rate {p : Program} {l : Launch} {e : Env} {s : State} {m : MethodId} {below : List Frame} {meth : Method} {c : Code} {b L : Nat} {xs : Nat → Int32} {Q : State → Prop} {D : va_G} {E : Nat → ClassId} {h : XW} {H : Heap} {locs : List Loc} {cells slots X r ou i : Nat} {ls : Array Slot} (F : LF p l s m c b L xs) (hI : LI E X r ou h) (I : XI s.heap.size D E h s H) (hS : va_S (xA s.heap.size) s.heap H locs) (hcs : cells + 9 ≤ 601024 ∧ slots + 65 ≤ 7293034) (hi : i + 6 ≤ L) (hL : L ≤ 3072) (hl : lv_has ls 8 [(0, .ref b), (1, .ref X), (2, .ref r), (3, .ref ou), (4, .int (nI i))])
    (kk : ∀ (h2 : XW) (H2 : Heap) (locs2 : List Loc) (ls2 : Array Slot), LI E X r ou h2 → XI s.heap.size D E h2 s H2 → va_S (xA s.heap.size) s.heap H2 locs2 → lv_has ls2 8 [(0, .ref b), (1, .ref X), (2, .ref r), (3, .ref ou), (4, .int (nI i))] → W p l e room_1 s m #[Value.ref b] below meth c H2 locs2 (cells + 9) (slots + 65) Q (F0 m 2238 ls2 [])) : W p l e room_1 s m #[Value.ref b] below meth c H locs cells slots Q (F0 m 461 ls []) := by
  obtain ⟨hx, hb, hml, hown, hts, hX, hbl, hCa, hlst⟩ := F
  obtain ⟨σ, τ, th, ad, fa, ar, fo, hR, rfl, hM, hou, ho, hRel, hW⟩ := hI
  have hMW := hRel.MW hW
  have hbA : ¬ xA s.heap.size b := Nat.not_le.mpr hbl
  have v1 : vp_in (nI i + nI 1) L := by rw [nI_add]; exact vp_in_nI (by omega) (by omega)
  obtain ⟨a1, ea1⟩ : ∃ y : Int32, y = xs (nI i + nI 1).toNatClampNeg := ⟨_, rfl⟩
  have e1 : Value.int (xs (nI i + nI 1).toNatClampNeg) = .int a1 := by rw [ea1]
  have v2 : vp_in (nI i + nI 2) L := by rw [nI_add]; exact vp_in_nI (by omega) (by omega)
  obtain ⟨a2, ea2⟩ : ∃ y : Int32, y = xs (nI i + nI 2).toNatClampNeg := ⟨_, rfl⟩
  have e2 : Value.int (xs (nI i + nI 2).toNatClampNeg) = .int a2 := by rw [ea2]
  have v3 : vp_in (nI i + nI 3) L := by rw [nI_add]; exact vp_in_nI (by omega) (by omega)
  obtain ⟨a3, ea3⟩ : ∃ y : Int32, y = xs (nI i + nI 3).toNatClampNeg := ⟨_, rfl⟩
  have e3 : Value.int (xs (nI i + nI 3).toNatClampNeg) = .int a3 := by rw [ea3]
  have q := q_rate hRel hW th a1 a2 a3
  refine lv_aload_n hx hb dL_law_461 rfl (lv_at hl 1 rfl) ?_
  refine lv_aload_n hx hb dL_law_462 rfl (lv_at hl 0 rfl) ?_
  refine lv_iload hx hb dL_law_463 (lv_at hl 4 rfl) ?_
  refine lv_iconst (v := nI 1) hx hb dL_law_465 (by decide) ?_
  refine lv_iadd hx hb dL_law_466 ?_
  refine va_sld hx hb hX hbl hbA hS v1 dL_law_467 ?_
  refine xtop e1 ?_
  refine lv_aload_n hx hb dL_law_468 rfl (lv_at hl 0 rfl) ?_
  refine lv_iload hx hb dL_law_469 (lv_at hl 4 rfl) ?_
  refine lv_iconst (v := nI 2) hx hb dL_law_471 (by decide) ?_
  refine lv_iadd hx hb dL_law_472 ?_
  refine va_sld hx hb hX hbl hbA hS v2 dL_law_473 ?_
  refine xtop e2 ?_
  refine lv_aload_n hx hb dL_law_474 rfl (lv_at hl 0 rfl) ?_
  refine lv_iload hx hb dL_law_475 (lv_at hl 4 rfl) ?_
  refine lv_iconst (v := nI 3) hx hb dL_law_477 (by decide) ?_
  refine lv_iadd hx hb dL_law_478 ?_
  refine va_sld hx hb hX hbl hbA hS v3 dL_law_479 ?_
  refine xtop e3 ?_
  refine lv_aload_n hx hb dL_law_480 rfl (lv_at hl 3 rfl) ?_
  refine xcsW (As := [.ref (ad 0 0), .int a1, .int a2, .int a3, .ref ou]) (rest := []) ⟨hx, hb, hml, hown, hts⟩ (mL_rate l s.heap.size D E h hlst (lPr r ou ar) τ ad fa hR hW ou fo (Or.inl rfl) ho a1 a2 a3 (hE3 q)) (vx_cwSW 5 hts gL_law_L_rate rfl rfl rfl (by decide +kernel) ⟨Nat.le_of_ble_eq_true rfl, Nat.le_of_ble_eq_true rfl⟩) I hCa hS rfl hl.1 rfl (Nat.le_of_ble_eq_true rfl) dL_law_481 ⟨show cells + 5 ≤ 601024 by omega, show slots + 30 ≤ 7293034 by omega⟩ (fun v9 h1 H locs q9 I hS => ?_)
  obtain ⟨rfl, τ1, ad1, fa1, fo1, hRel1, hW1, hR1, h00, hpr, ho1, hans⟩ := l_post (by decide) hR rfl hW ho q q9
  obtain ⟨k1, ek1⟩ : ∃ y, y = (fX8_rate σ th a1 a2 a3).2.2 := ⟨_, rfl⟩
  refine W.eq (g2 := F0 m 484 ls [.int (fX8_rate σ th a1 a2 a3).2.2]) rfl ?_
  refine xtop (show Value.int (fX8_rate σ th a1 a2 a3).2.2 = .int k1 by rw [ek1]) ?_
  refine lv_istore (lv' := [(5, .int k1), (0, .ref b), (1, .ref (ad 0 0)), (2, .ref r), (3, .ref ou), (4, .int (nI i))]) hx hb dL_law_484 hl (by decide) rfl (fun ls hl => ?_)
  have hM1 : RM E σ th r (arN ar H.size) h1 := (hM.keep (hpr r (Or.inr (Or.inl rfl)) hou.1.symm) (fun k hk ha => hpr (ar k) (Or.inr (Or.inr ⟨k, hk, ha, rfl⟩)) (hou.2 k hk ha).symm)).re (fun b e he => I.lt b e he)
  have hB1 : ∀ b e, h1 b = some e → b < H.size := fun b e he => I.lt b e he
  refine lv_aload_n hx hb dL_law_486 rfl (lv_at hl 3 rfl) ?_
  refine lv_aload_n hx hb dL_law_487 rfl (lv_at hl 1 rfl) ?_
  refine lv_iload hx hb dL_law_488 (lv_at hl 5 rfl) ?_
  refine lv_iconst (v := nI 1) hx hb dL_law_490 (by decide) ?_
  refine lv_iadd hx hb dL_law_491 ?_
  refine va_sld hx hb hX hbl hbA hS v1 dL_law_492 ?_
  refine xtop e1 ?_
  refine lv_aload_n hx hb dL_law_493 rfl (lv_at hl 1 rfl) ?_
  refine lv_iload hx hb dL_law_494 (lv_at hl 5 rfl) ?_
  refine lv_iconst (v := nI 2) hx hb dL_law_496 (by decide) ?_
  refine lv_iadd hx hb dL_law_497 ?_
  refine va_sld hx hb hX hbl hbA hS v2 dL_law_498 ?_
  refine xtop e2 ?_
  refine lv_aload_n hx hb dL_law_499 rfl (lv_at hl 1 rfl) ?_
  refine lv_iload hx hb dL_law_500 (lv_at hl 5 rfl) ?_
  refine lv_iconst (v := nI 3) hx hb dL_law_502 (by decide) ?_
  refine lv_iadd hx hb dL_law_503 ?_
  refine va_sld hx hb hX hbl hbA hS v3 dL_law_504 ?_
  refine xtop e3 ?_
  refine xcvQ (As := [.int a1, .int a2, .int a3]) (rest := []) ⟨hx, hb, hml, hown, hts⟩ (mX8_rate l s.heap.size D E h1 σ th r (arN ar H.size) hM1 hMW a1 a2 a3) (cwV 3 hts gL_law_X8_rate rfl rfl rfl (by decide +kernel) ⟨Nat.le_of_ble_eq_true rfl, Nat.le_of_ble_eq_true rfl⟩) I hS hM1.1 rfl rfl hl.1 rfl (Nat.le_of_ble_eq_true rfl) dL_law_505 ⟨show cells + 5 + 0 ≤ 601024 by omega, show slots + 30 + 0 ≤ 7293034 by omega⟩ (fun v9 h2 H2 locs q9 I hS => ?_)
  obtain ⟨rfl, hM2, hF2⟩ := q9
  obtain ⟨ho2, hLI⟩ := l_next hR1 h00 hM2 hB1 hF2 hou ho1 hRel1 hW1
  obtain ⟨f1, ef1⟩ : ∃ y, y = (fX8_rate σ th a1 a2 a3).1 := ⟨_, rfl⟩
  refine W.eq (g2 := F0 m 508 ls [.int (fX8_rate σ th a1 a2 a3).1]) rfl ?_
  refine xtop (show Value.int (fX8_rate σ th a1 a2 a3).1 = .int f1 by rw [ef1]) ?_
  refine lv_istore (lv' := [(6, .int f1), (5, .int k1), (0, .ref b), (1, .ref (ad 0 0)), (2, .ref r), (3, .ref ou), (4, .int (nI i))]) hx hb dL_law_508 hl (by decide) rfl (fun ls hl => ?_)
  refine lv_aload_n hx hb dL_law_510 rfl (lv_at hl 4 rfl) ?_
  refine xcvR (As := ([] : List Value)) (rest := []) ⟨hx, hb, hml, hown, hts⟩ (mX8_thrown l s.heap.size D E h2 _ _ r _ hM2 (hRel1.MW hW1)) (cwV 0 hts gL_law_X8_thrown rfl rfl rfl (by decide +kernel) ⟨Nat.le_of_ble_eq_true rfl, Nat.le_of_ble_eq_true rfl⟩) I hM2.1 rfl rfl hl.1 rfl (Nat.le_of_ble_eq_true rfl) dL_law_511 ⟨show cells + 5 + 0 + 0 ≤ 601024 by omega, show slots + 30 + 0 + 0 ≤ 7293034 by omega⟩ ?_
  refine W.eq (g2 := F0 m 514 ls [.int (fX8_rate σ th a1 a2 a3).2.2]) rfl ?_
  refine xtop (show Value.int (fX8_rate σ th a1 a2 a3).2.2 = .int k1 by rw [ek1]) ?_
  refine lv_iload hx hb dL_law_514 (lv_at hl 1 rfl) ?_
  refine lv_icmp_eq (tgt := 521) hx hb dL_law_516 (by decide) (fun c1 => ?_) (fun c1 => absurd rfl c1)
  refine lv_iload hx hb dL_law_521 (lv_at hl 1 rfl) ?_
  refine lv_if_ne (tgt := 538) hx hb dL_law_523 (by decide) (fun c2 => ?_) (fun c2 => ?_)
  · refine lv_goto (tgt := 2238) hx hb dL_law_538 (by decide) ?_
    exact W.widen (by omega) (by omega) (kk _ _ _ _ hLI I hS (lv_sub hl [2, 3, 4, 5, 6] rfl))
  · have hk0 : (fX8_rate σ th a1 a2 a3).2.2 = nI 0 := by rw [← ek1]; exact c2
    have hval : fo1 0 = (fX8_rate σ th a1 a2 a3).1.toInt64 := hans hk0 _ rfl
    refine lv_aload_n hx hb dL_law_526 rfl (lv_at hl 5 rfl) ?_
    refine lv_iconst (v := nI 0) hx hb dL_law_527 (by decide) ?_
    refine xlald (i := 0) (n := 1) hx hb I ho2 (by decide) (by decide) dL_law_528 ?_
    refine lv_iload hx hb dL_law_529 (lv_at hl 0 rfl) ?_
    refine lv_i2l (v := f1.toInt64) hx hb dL_law_531 rfl ?_
    refine xl_eq (tgt := 538) hx hb dL_law_532 dL_law_533 (by decide) (fun _ => ?_) (fun z => absurd (by rw [hval, ef1]) z)
    refine lv_goto (tgt := 2238) hx hb dL_law_538 (by decide) ?_
    exact W.widen (by omega) (by omega) (kk _ _ _ _ hLI I hS (lv_sub hl [2, 3, 4, 5, 6] rfl))
set_option maxHeartbeats 4000000 in
set_option maxRecDepth 100000 in
theorem lc_weight {p : Program} {l : Launch} {e : Env} {s : State} {m : MethodId} {below : List Frame} {meth : Method} {c : Code} {b L : Nat} {xs : Nat → Int32} {Q : State → Prop} {D : va_G} {E : Nat → ClassId} {h : XW} {H : Heap} {locs : List Loc} {cells slots X r ou i : Nat} {ls : Array Slot} (F : LF p l s m c b L xs) (hI : LI E X r ou h) (I : XI s.heap.size D E h s H) (hS : va_S (xA s.heap.size) s.heap H locs) (hcs : cells + 9 ≤ 601024 ∧ slots + 65 ≤ 7293034) (hi : i + 6 ≤ L) (hL : L ≤ 3072) (hl : lv_has ls 8 [(0, .ref b), (1, .ref X), (2, .ref r), (3, .ref ou), (4, .int (nI i))])
    (kk : ∀ (h2 : XW) (H2 : Heap) (locs2 : List Loc) (ls2 : Array Slot), LI E X r ou h2 → XI s.heap.size D E h2 s H2 → va_S (xA s.heap.size) s.heap H2 locs2 → lv_has ls2 8 [(0, .ref b), (1, .ref X), (2, .ref r), (3, .ref ou), (4, .int (nI i))] → W p l e room_1 s m #[Value.ref b] below meth c H2 locs2 (cells + 9) (slots + 65) Q (F0 m 2238 ls2 [])) : W p l e room_1 s m #[Value.ref b] below meth c H locs cells slots Q (F0 m 541 ls []) := by
  obtain ⟨hx, hb, hml, hown, hts, hX, hbl, hCa, hlst⟩ := F
  obtain ⟨σ, τ, th, ad, fa, ar, fo, hR, rfl, hM, hou, ho, hRel, hW⟩ := hI
  have hMW := hRel.MW hW
  have hbA : ¬ xA s.heap.size b := Nat.not_le.mpr hbl
  have v1 : vp_in (nI i + nI 1) L := by rw [nI_add]; exact vp_in_nI (by omega) (by omega)
  obtain ⟨a1, ea1⟩ : ∃ y : Int32, y = xs (nI i + nI 1).toNatClampNeg := ⟨_, rfl⟩
  have e1 : Value.int (xs (nI i + nI 1).toNatClampNeg) = .int a1 := by rw [ea1]
  have v2 : vp_in (nI i + nI 2) L := by rw [nI_add]; exact vp_in_nI (by omega) (by omega)
  obtain ⟨a2, ea2⟩ : ∃ y : Int32, y = xs (nI i + nI 2).toNatClampNeg := ⟨_, rfl⟩
  have e2 : Value.int (xs (nI i + nI 2).toNatClampNeg) = .int a2 := by rw [ea2]
  have q := q_weight hRel hW th a1 a2
  refine lv_aload_n hx hb dL_law_541 rfl (lv_at hl 1 rfl) ?_
  refine lv_aload_n hx hb dL_law_542 rfl (lv_at hl 0 rfl) ?_
  refine lv_iload hx hb dL_law_543 (lv_at hl 4 rfl) ?_
  refine lv_iconst (v := nI 1) hx hb dL_law_545 (by decide) ?_
  refine lv_iadd hx hb dL_law_546 ?_
  refine va_sld hx hb hX hbl hbA hS v1 dL_law_547 ?_
  refine xtop e1 ?_
  refine lv_aload_n hx hb dL_law_548 rfl (lv_at hl 0 rfl) ?_
  refine lv_iload hx hb dL_law_549 (lv_at hl 4 rfl) ?_
  refine lv_iconst (v := nI 2) hx hb dL_law_551 (by decide) ?_
  refine lv_iadd hx hb dL_law_552 ?_
  refine va_sld hx hb hX hbl hbA hS v2 dL_law_553 ?_
  refine xtop e2 ?_
  refine lv_aload_n hx hb dL_law_554 rfl (lv_at hl 3 rfl) ?_
  refine xcsW (As := [.ref (ad 0 0), .int a1, .int a2, .ref ou]) (rest := []) ⟨hx, hb, hml, hown, hts⟩ (mL_weight l s.heap.size D E h hlst (lPr r ou ar) τ ad fa hR hW ou fo (Or.inl rfl) ho a1 a2 (hE2 q)) (vx_cwSW 4 hts gL_law_L_weight rfl rfl rfl (by decide +kernel) ⟨Nat.le_of_ble_eq_true rfl, Nat.le_of_ble_eq_true rfl⟩) I hCa hS rfl hl.1 rfl (Nat.le_of_ble_eq_true rfl) dL_law_555 ⟨show cells + 2 ≤ 601024 by omega, show slots + 12 ≤ 7293034 by omega⟩ (fun v9 h1 H locs q9 I hS => ?_)
  obtain ⟨rfl, τ1, ad1, fa1, fo1, hRel1, hW1, hR1, h00, hpr, ho1, hans⟩ := l_post (by decide) hR rfl hW ho q q9
  obtain ⟨k1, ek1⟩ : ∃ y, y = (fX8_weight σ th a1 a2).2.2 := ⟨_, rfl⟩
  refine W.eq (g2 := F0 m 558 ls [.int (fX8_weight σ th a1 a2).2.2]) rfl ?_
  refine xtop (show Value.int (fX8_weight σ th a1 a2).2.2 = .int k1 by rw [ek1]) ?_
  refine lv_istore (lv' := [(5, .int k1), (0, .ref b), (1, .ref (ad 0 0)), (2, .ref r), (3, .ref ou), (4, .int (nI i))]) hx hb dL_law_558 hl (by decide) rfl (fun ls hl => ?_)
  have hM1 : RM E σ th r (arN ar H.size) h1 := (hM.keep (hpr r (Or.inr (Or.inl rfl)) hou.1.symm) (fun k hk ha => hpr (ar k) (Or.inr (Or.inr ⟨k, hk, ha, rfl⟩)) (hou.2 k hk ha).symm)).re (fun b e he => I.lt b e he)
  have hB1 : ∀ b e, h1 b = some e → b < H.size := fun b e he => I.lt b e he
  refine lv_aload_n hx hb dL_law_560 rfl (lv_at hl 3 rfl) ?_
  refine lv_aload_n hx hb dL_law_561 rfl (lv_at hl 1 rfl) ?_
  refine lv_iload hx hb dL_law_562 (lv_at hl 5 rfl) ?_
  refine lv_iconst (v := nI 1) hx hb dL_law_564 (by decide) ?_
  refine lv_iadd hx hb dL_law_565 ?_
  refine va_sld hx hb hX hbl hbA hS v1 dL_law_566 ?_
  refine xtop e1 ?_
  refine lv_aload_n hx hb dL_law_567 rfl (lv_at hl 1 rfl) ?_
  refine lv_iload hx hb dL_law_568 (lv_at hl 5 rfl) ?_
  refine lv_iconst (v := nI 2) hx hb dL_law_570 (by decide) ?_
  refine lv_iadd hx hb dL_law_571 ?_
  refine va_sld hx hb hX hbl hbA hS v2 dL_law_572 ?_
  refine xtop e2 ?_
  refine xcvQ (As := [.int a1, .int a2]) (rest := []) ⟨hx, hb, hml, hown, hts⟩ (mX8_weight l s.heap.size D E h1 σ th r (arN ar H.size) hM1 hMW a1 a2) (cwV 2 hts gL_law_X8_weight rfl rfl rfl (by decide +kernel) ⟨Nat.le_of_ble_eq_true rfl, Nat.le_of_ble_eq_true rfl⟩) I hS hM1.1 rfl rfl hl.1 rfl (Nat.le_of_ble_eq_true rfl) dL_law_573 ⟨show cells + 2 + 0 ≤ 601024 by omega, show slots + 12 + 0 ≤ 7293034 by omega⟩ (fun v9 h2 H2 locs q9 I hS => ?_)
  obtain ⟨rfl, hM2, hF2⟩ := q9
  obtain ⟨ho2, hLI⟩ := l_next hR1 h00 hM2 hB1 hF2 hou ho1 hRel1 hW1
  obtain ⟨f1, ef1⟩ : ∃ y, y = (fX8_weight σ th a1 a2).1 := ⟨_, rfl⟩
  refine W.eq (g2 := F0 m 576 ls [.long (fX8_weight σ th a1 a2).1]) rfl ?_
  refine xtop (show Value.long (fX8_weight σ th a1 a2).1 = .long f1 by rw [ef1]) ?_
  refine lv_lstore (lv' := [(6, .long f1), (5, .int k1), (0, .ref b), (1, .ref (ad 0 0)), (2, .ref r), (3, .ref ou), (4, .int (nI i))]) hx hb dL_law_576 hl (by decide) rfl (fun ls hl => ?_)
  refine lv_aload_n hx hb dL_law_578 rfl (lv_at hl 4 rfl) ?_
  refine xcvR (As := ([] : List Value)) (rest := []) ⟨hx, hb, hml, hown, hts⟩ (mX8_thrown l s.heap.size D E h2 _ _ r _ hM2 (hRel1.MW hW1)) (cwV 0 hts gL_law_X8_thrown rfl rfl rfl (by decide +kernel) ⟨Nat.le_of_ble_eq_true rfl, Nat.le_of_ble_eq_true rfl⟩) I hM2.1 rfl rfl hl.1 rfl (Nat.le_of_ble_eq_true rfl) dL_law_579 ⟨show cells + 2 + 0 + 0 ≤ 601024 by omega, show slots + 12 + 0 + 0 ≤ 7293034 by omega⟩ ?_
  refine W.eq (g2 := F0 m 582 ls [.int (fX8_weight σ th a1 a2).2.2]) rfl ?_
  refine xtop (show Value.int (fX8_weight σ th a1 a2).2.2 = .int k1 by rw [ek1]) ?_
  refine lv_iload hx hb dL_law_582 (lv_at hl 1 rfl) ?_
  refine lv_icmp_eq (tgt := 589) hx hb dL_law_584 (by decide) (fun c1 => ?_) (fun c1 => absurd rfl c1)
  refine lv_iload hx hb dL_law_589 (lv_at hl 1 rfl) ?_
  refine lv_if_ne (tgt := 605) hx hb dL_law_591 (by decide) (fun c2 => ?_) (fun c2 => ?_)
  · refine lv_goto (tgt := 2238) hx hb dL_law_605 (by decide) ?_
    exact W.widen (by omega) (by omega) (kk _ _ _ _ hLI I hS (lv_sub hl [2, 3, 4, 5, 6] rfl))
  · have hk0 : (fX8_weight σ th a1 a2).2.2 = nI 0 := by rw [← ek1]; exact c2
    have hval : fo1 0 = (fX8_weight σ th a1 a2).1 := hans hk0 _ rfl
    refine lv_aload_n hx hb dL_law_594 rfl (lv_at hl 5 rfl) ?_
    refine lv_iconst (v := nI 0) hx hb dL_law_595 (by decide) ?_
    refine xlald (i := 0) (n := 1) hx hb I ho2 (by decide) (by decide) dL_law_596 ?_
    refine lv_lload hx hb dL_law_597 (lv_at hl 0 rfl) ?_
    refine xl_eq (tgt := 605) hx hb dL_law_599 dL_law_600 (by decide) (fun _ => ?_) (fun z => absurd (by rw [hval, ef1]) z)
    refine lv_goto (tgt := 2238) hx hb dL_law_605 (by decide) ?_
    exact W.widen (by omega) (by omega) (kk _ _ _ _ hLI I hS (lv_sub hl [2, 3, 4, 5, 6] rfl))
set_option maxHeartbeats 4000000 in
set_option maxRecDepth 100000 in
theorem lc_weightAnew {p : Program} {l : Launch} {e : Env} {s : State} {m : MethodId} {below : List Frame} {meth : Method} {c : Code} {b L : Nat} {xs : Nat → Int32} {Q : State → Prop} {D : va_G} {E : Nat → ClassId} {h : XW} {H : Heap} {locs : List Loc} {cells slots X r ou i : Nat} {ls : Array Slot} (F : LF p l s m c b L xs) (hI : LI E X r ou h) (I : XI s.heap.size D E h s H) (hS : va_S (xA s.heap.size) s.heap H locs) (hcs : cells + 9 ≤ 601024 ∧ slots + 65 ≤ 7293034) (hi : i + 6 ≤ L) (hL : L ≤ 3072) (hl : lv_has ls 8 [(0, .ref b), (1, .ref X), (2, .ref r), (3, .ref ou), (4, .int (nI i))])
    (kk : ∀ (h2 : XW) (H2 : Heap) (locs2 : List Loc) (ls2 : Array Slot), LI E X r ou h2 → XI s.heap.size D E h2 s H2 → va_S (xA s.heap.size) s.heap H2 locs2 → lv_has ls2 8 [(0, .ref b), (1, .ref X), (2, .ref r), (3, .ref ou), (4, .int (nI i))] → W p l e room_1 s m #[Value.ref b] below meth c H2 locs2 (cells + 9) (slots + 65) Q (F0 m 2238 ls2 [])) : W p l e room_1 s m #[Value.ref b] below meth c H locs cells slots Q (F0 m 608 ls []) := by
  obtain ⟨hx, hb, hml, hown, hts, hX, hbl, hCa, hlst⟩ := F
  obtain ⟨σ, τ, th, ad, fa, ar, fo, hR, rfl, hM, hou, ho, hRel, hW⟩ := hI
  have hMW := hRel.MW hW
  have hbA : ¬ xA s.heap.size b := Nat.not_le.mpr hbl
  have v1 : vp_in (nI i + nI 1) L := by rw [nI_add]; exact vp_in_nI (by omega) (by omega)
  obtain ⟨a1, ea1⟩ : ∃ y : Int32, y = xs (nI i + nI 1).toNatClampNeg := ⟨_, rfl⟩
  have e1 : Value.int (xs (nI i + nI 1).toNatClampNeg) = .int a1 := by rw [ea1]
  have v2 : vp_in (nI i + nI 2) L := by rw [nI_add]; exact vp_in_nI (by omega) (by omega)
  obtain ⟨a2, ea2⟩ : ∃ y : Int32, y = xs (nI i + nI 2).toNatClampNeg := ⟨_, rfl⟩
  have e2 : Value.int (xs (nI i + nI 2).toNatClampNeg) = .int a2 := by rw [ea2]
  have q := q_weightAnew hRel hW th a1 a2
  refine lv_aload_n hx hb dL_law_608 rfl (lv_at hl 1 rfl) ?_
  refine lv_aload_n hx hb dL_law_609 rfl (lv_at hl 0 rfl) ?_
  refine lv_iload hx hb dL_law_610 (lv_at hl 4 rfl) ?_
  refine lv_iconst (v := nI 1) hx hb dL_law_612 (by decide) ?_
  refine lv_iadd hx hb dL_law_613 ?_
  refine va_sld hx hb hX hbl hbA hS v1 dL_law_614 ?_
  refine xtop e1 ?_
  refine lv_aload_n hx hb dL_law_615 rfl (lv_at hl 0 rfl) ?_
  refine lv_iload hx hb dL_law_616 (lv_at hl 4 rfl) ?_
  refine lv_iconst (v := nI 2) hx hb dL_law_618 (by decide) ?_
  refine lv_iadd hx hb dL_law_619 ?_
  refine va_sld hx hb hX hbl hbA hS v2 dL_law_620 ?_
  refine xtop e2 ?_
  refine lv_aload_n hx hb dL_law_621 rfl (lv_at hl 3 rfl) ?_
  refine xcsW (As := [.ref (ad 0 0), .int a1, .int a2, .ref ou]) (rest := []) ⟨hx, hb, hml, hown, hts⟩ (mL_weightAnew l s.heap.size D E h hlst (lPr r ou ar) τ ad fa hR hW ou fo (Or.inl rfl) ho a1 a2 (hE2 q)) (vx_cwSW 4 hts gL_law_L_weightAnew rfl rfl rfl (by decide +kernel) ⟨Nat.le_of_ble_eq_true rfl, Nat.le_of_ble_eq_true rfl⟩) I hCa hS rfl hl.1 rfl (Nat.le_of_ble_eq_true rfl) dL_law_622 ⟨show cells + 2 ≤ 601024 by omega, show slots + 12 ≤ 7293034 by omega⟩ (fun v9 h1 H locs q9 I hS => ?_)
  obtain ⟨rfl, τ1, ad1, fa1, fo1, hRel1, hW1, hR1, h00, hpr, ho1, hans⟩ := l_post (by decide) hR rfl hW ho q q9
  obtain ⟨k1, ek1⟩ : ∃ y, y = (fX8_weightAnew σ th a1 a2).2.2 := ⟨_, rfl⟩
  refine W.eq (g2 := F0 m 625 ls [.int (fX8_weightAnew σ th a1 a2).2.2]) rfl ?_
  refine xtop (show Value.int (fX8_weightAnew σ th a1 a2).2.2 = .int k1 by rw [ek1]) ?_
  refine lv_istore (lv' := [(5, .int k1), (0, .ref b), (1, .ref (ad 0 0)), (2, .ref r), (3, .ref ou), (4, .int (nI i))]) hx hb dL_law_625 hl (by decide) rfl (fun ls hl => ?_)
  have hM1 : RM E σ th r (arN ar H.size) h1 := (hM.keep (hpr r (Or.inr (Or.inl rfl)) hou.1.symm) (fun k hk ha => hpr (ar k) (Or.inr (Or.inr ⟨k, hk, ha, rfl⟩)) (hou.2 k hk ha).symm)).re (fun b e he => I.lt b e he)
  have hB1 : ∀ b e, h1 b = some e → b < H.size := fun b e he => I.lt b e he
  refine lv_aload_n hx hb dL_law_627 rfl (lv_at hl 3 rfl) ?_
  refine lv_aload_n hx hb dL_law_628 rfl (lv_at hl 1 rfl) ?_
  refine lv_iload hx hb dL_law_629 (lv_at hl 5 rfl) ?_
  refine lv_iconst (v := nI 1) hx hb dL_law_631 (by decide) ?_
  refine lv_iadd hx hb dL_law_632 ?_
  refine va_sld hx hb hX hbl hbA hS v1 dL_law_633 ?_
  refine xtop e1 ?_
  refine lv_aload_n hx hb dL_law_634 rfl (lv_at hl 1 rfl) ?_
  refine lv_iload hx hb dL_law_635 (lv_at hl 5 rfl) ?_
  refine lv_iconst (v := nI 2) hx hb dL_law_637 (by decide) ?_
  refine lv_iadd hx hb dL_law_638 ?_
  refine va_sld hx hb hX hbl hbA hS v2 dL_law_639 ?_
  refine xtop e2 ?_
  refine xcvQ (As := [.int a1, .int a2]) (rest := []) ⟨hx, hb, hml, hown, hts⟩ (mX8_weightAnew l s.heap.size D E h1 σ th r (arN ar H.size) hM1 hMW a1 a2) (cwV 2 hts gL_law_X8_weightAnew rfl rfl rfl (by decide +kernel) ⟨Nat.le_of_ble_eq_true rfl, Nat.le_of_ble_eq_true rfl⟩) I hS hM1.1 rfl rfl hl.1 rfl (Nat.le_of_ble_eq_true rfl) dL_law_640 ⟨show cells + 2 + 0 ≤ 601024 by omega, show slots + 12 + 0 ≤ 7293034 by omega⟩ (fun v9 h2 H2 locs q9 I hS => ?_)
  obtain ⟨rfl, hM2, hF2⟩ := q9
  obtain ⟨ho2, hLI⟩ := l_next hR1 h00 hM2 hB1 hF2 hou ho1 hRel1 hW1
  obtain ⟨f1, ef1⟩ : ∃ y, y = (fX8_weightAnew σ th a1 a2).1 := ⟨_, rfl⟩
  refine W.eq (g2 := F0 m 643 ls [.long (fX8_weightAnew σ th a1 a2).1]) rfl ?_
  refine xtop (show Value.long (fX8_weightAnew σ th a1 a2).1 = .long f1 by rw [ef1]) ?_
  refine lv_lstore (lv' := [(6, .long f1), (5, .int k1), (0, .ref b), (1, .ref (ad 0 0)), (2, .ref r), (3, .ref ou), (4, .int (nI i))]) hx hb dL_law_643 hl (by decide) rfl (fun ls hl => ?_)
  refine lv_aload_n hx hb dL_law_645 rfl (lv_at hl 4 rfl) ?_
  refine xcvR (As := ([] : List Value)) (rest := []) ⟨hx, hb, hml, hown, hts⟩ (mX8_thrown l s.heap.size D E h2 _ _ r _ hM2 (hRel1.MW hW1)) (cwV 0 hts gL_law_X8_thrown rfl rfl rfl (by decide +kernel) ⟨Nat.le_of_ble_eq_true rfl, Nat.le_of_ble_eq_true rfl⟩) I hM2.1 rfl rfl hl.1 rfl (Nat.le_of_ble_eq_true rfl) dL_law_646 ⟨show cells + 2 + 0 + 0 ≤ 601024 by omega, show slots + 12 + 0 + 0 ≤ 7293034 by omega⟩ ?_
  refine W.eq (g2 := F0 m 649 ls [.int (fX8_weightAnew σ th a1 a2).2.2]) rfl ?_
  refine xtop (show Value.int (fX8_weightAnew σ th a1 a2).2.2 = .int k1 by rw [ek1]) ?_
  refine lv_iload hx hb dL_law_649 (lv_at hl 1 rfl) ?_
  refine lv_icmp_eq (tgt := 656) hx hb dL_law_651 (by decide) (fun c1 => ?_) (fun c1 => absurd rfl c1)
  refine lv_iload hx hb dL_law_656 (lv_at hl 1 rfl) ?_
  refine lv_if_ne (tgt := 672) hx hb dL_law_658 (by decide) (fun c2 => ?_) (fun c2 => ?_)
  · refine lv_goto (tgt := 2238) hx hb dL_law_672 (by decide) ?_
    exact W.widen (by omega) (by omega) (kk _ _ _ _ hLI I hS (lv_sub hl [2, 3, 4, 5, 6] rfl))
  · have hk0 : (fX8_weightAnew σ th a1 a2).2.2 = nI 0 := by rw [← ek1]; exact c2
    have hval : fo1 0 = (fX8_weightAnew σ th a1 a2).1 := hans hk0 _ rfl
    refine lv_aload_n hx hb dL_law_661 rfl (lv_at hl 5 rfl) ?_
    refine lv_iconst (v := nI 0) hx hb dL_law_662 (by decide) ?_
    refine xlald (i := 0) (n := 1) hx hb I ho2 (by decide) (by decide) dL_law_663 ?_
    refine lv_lload hx hb dL_law_664 (lv_at hl 0 rfl) ?_
    refine xl_eq (tgt := 672) hx hb dL_law_666 dL_law_667 (by decide) (fun _ => ?_) (fun z => absurd (by rw [hval, ef1]) z)
    refine lv_goto (tgt := 2238) hx hb dL_law_672 (by decide) ?_
    exact W.widen (by omega) (by omega) (kk _ _ _ _ hLI I hS (lv_sub hl [2, 3, 4, 5, 6] rfl))
set_option maxHeartbeats 4000000 in
set_option maxRecDepth 100000 in
theorem lc_rule {p : Program} {l : Launch} {e : Env} {s : State} {m : MethodId} {below : List Frame} {meth : Method} {c : Code} {b L : Nat} {xs : Nat → Int32} {Q : State → Prop} {D : va_G} {E : Nat → ClassId} {h : XW} {H : Heap} {locs : List Loc} {cells slots X r ou i : Nat} {ls : Array Slot} (F : LF p l s m c b L xs) (hI : LI E X r ou h) (I : XI s.heap.size D E h s H) (hS : va_S (xA s.heap.size) s.heap H locs) (hcs : cells + 9 ≤ 601024 ∧ slots + 65 ≤ 7293034) (hi : i + 6 ≤ L) (hL : L ≤ 3072) (hl : lv_has ls 8 [(0, .ref b), (1, .ref X), (2, .ref r), (3, .ref ou), (4, .int (nI i))])
    (kk : ∀ (h2 : XW) (H2 : Heap) (locs2 : List Loc) (ls2 : Array Slot), LI E X r ou h2 → XI s.heap.size D E h2 s H2 → va_S (xA s.heap.size) s.heap H2 locs2 → lv_has ls2 8 [(0, .ref b), (1, .ref X), (2, .ref r), (3, .ref ou), (4, .int (nI i))] → W p l e room_1 s m #[Value.ref b] below meth c H2 locs2 (cells + 9) (slots + 65) Q (F0 m 2238 ls2 [])) : W p l e room_1 s m #[Value.ref b] below meth c H locs cells slots Q (F0 m 675 ls []) := by
  obtain ⟨hx, hb, hml, hown, hts, hX, hbl, hCa, hlst⟩ := F
  obtain ⟨σ, τ, th, ad, fa, ar, fo, hR, rfl, hM, hou, ho, hRel, hW⟩ := hI
  have hMW := hRel.MW hW
  have hbA : ¬ xA s.heap.size b := Nat.not_le.mpr hbl
  have v1 : vp_in (nI i + nI 1) L := by rw [nI_add]; exact vp_in_nI (by omega) (by omega)
  obtain ⟨a1, ea1⟩ : ∃ y : Int32, y = xs (nI i + nI 1).toNatClampNeg := ⟨_, rfl⟩
  have e1 : Value.int (xs (nI i + nI 1).toNatClampNeg) = .int a1 := by rw [ea1]
  have v2 : vp_in (nI i + nI 2) L := by rw [nI_add]; exact vp_in_nI (by omega) (by omega)
  obtain ⟨a2, ea2⟩ : ∃ y : Int32, y = xs (nI i + nI 2).toNatClampNeg := ⟨_, rfl⟩
  have e2 : Value.int (xs (nI i + nI 2).toNatClampNeg) = .int a2 := by rw [ea2]
  have v3 : vp_in (nI i + nI 3) L := by rw [nI_add]; exact vp_in_nI (by omega) (by omega)
  obtain ⟨a3, ea3⟩ : ∃ y : Int32, y = xs (nI i + nI 3).toNatClampNeg := ⟨_, rfl⟩
  have e3 : Value.int (xs (nI i + nI 3).toNatClampNeg) = .int a3 := by rw [ea3]
  have v4 : vp_in (nI i + nI 4) L := by rw [nI_add]; exact vp_in_nI (by omega) (by omega)
  obtain ⟨a4, ea4⟩ : ∃ y : Int32, y = xs (nI i + nI 4).toNatClampNeg := ⟨_, rfl⟩
  have e4 : Value.int (xs (nI i + nI 4).toNatClampNeg) = .int a4 := by rw [ea4]
  have q := q_rule hRel hW th a1 a2 a3 a4
  refine lv_aload_n hx hb dL_law_675 rfl (lv_at hl 1 rfl) ?_
  refine lv_aload_n hx hb dL_law_676 rfl (lv_at hl 0 rfl) ?_
  refine lv_iload hx hb dL_law_677 (lv_at hl 4 rfl) ?_
  refine lv_iconst (v := nI 1) hx hb dL_law_679 (by decide) ?_
  refine lv_iadd hx hb dL_law_680 ?_
  refine va_sld hx hb hX hbl hbA hS v1 dL_law_681 ?_
  refine xtop e1 ?_
  refine lv_aload_n hx hb dL_law_682 rfl (lv_at hl 0 rfl) ?_
  refine lv_iload hx hb dL_law_683 (lv_at hl 4 rfl) ?_
  refine lv_iconst (v := nI 2) hx hb dL_law_685 (by decide) ?_
  refine lv_iadd hx hb dL_law_686 ?_
  refine va_sld hx hb hX hbl hbA hS v2 dL_law_687 ?_
  refine xtop e2 ?_
  refine lv_aload_n hx hb dL_law_688 rfl (lv_at hl 0 rfl) ?_
  refine lv_iload hx hb dL_law_689 (lv_at hl 4 rfl) ?_
  refine lv_iconst (v := nI 3) hx hb dL_law_691 (by decide) ?_
  refine lv_iadd hx hb dL_law_692 ?_
  refine va_sld hx hb hX hbl hbA hS v3 dL_law_693 ?_
  refine xtop e3 ?_
  refine lv_aload_n hx hb dL_law_694 rfl (lv_at hl 0 rfl) ?_
  refine lv_iload hx hb dL_law_695 (lv_at hl 4 rfl) ?_
  refine lv_iconst (v := nI 4) hx hb dL_law_697 (by decide) ?_
  refine lv_iadd hx hb dL_law_698 ?_
  refine va_sld hx hb hX hbl hbA hS v4 dL_law_699 ?_
  refine xtop e4 ?_
  refine xcsW (As := [.ref (ad 0 0), .int a1, .int a2, .int a3, .int a4]) (rest := []) ⟨hx, hb, hml, hown, hts⟩ (mL_rule l s.heap.size D E h hlst (lPr r ou ar) τ ad fa hR hW ou fo (Or.inl rfl) ho a1 a2 a3 a4 (hE2 q)) (vx_cwSW 5 hts gL_law_L_rule rfl rfl rfl (by decide +kernel) ⟨Nat.le_of_ble_eq_true rfl, Nat.le_of_ble_eq_true rfl⟩) I hCa hS rfl hl.1 rfl (Nat.le_of_ble_eq_true rfl) dL_law_700 ⟨show cells + 5 ≤ 601024 by omega, show slots + 30 ≤ 7293034 by omega⟩ (fun v9 h1 H locs q9 I hS => ?_)
  obtain ⟨rfl, τ1, ad1, fa1, fo1, hRel1, hW1, hR1, h00, hpr, ho1, hans⟩ := l_post (by decide) hR rfl hW ho q q9
  obtain ⟨k1, ek1⟩ : ∃ y, y = (fX8_rule σ th a1 a2 a3 a4).2 := ⟨_, rfl⟩
  refine W.eq (g2 := F0 m 703 ls [.int (fX8_rule σ th a1 a2 a3 a4).2]) rfl ?_
  refine xtop (show Value.int (fX8_rule σ th a1 a2 a3 a4).2 = .int k1 by rw [ek1]) ?_
  refine lv_istore (lv' := [(5, .int k1), (0, .ref b), (1, .ref (ad 0 0)), (2, .ref r), (3, .ref ou), (4, .int (nI i))]) hx hb dL_law_703 hl (by decide) rfl (fun ls hl => ?_)
  have hM1 : RM E σ th r (arN ar H.size) h1 := (hM.keep (hpr r (Or.inr (Or.inl rfl)) hou.1.symm) (fun k hk ha => hpr (ar k) (Or.inr (Or.inr ⟨k, hk, ha, rfl⟩)) (hou.2 k hk ha).symm)).re (fun b e he => I.lt b e he)
  have hB1 : ∀ b e, h1 b = some e → b < H.size := fun b e he => I.lt b e he
  refine lv_aload_n hx hb dL_law_705 rfl (lv_at hl 3 rfl) ?_
  refine lv_aload_n hx hb dL_law_706 rfl (lv_at hl 1 rfl) ?_
  refine lv_iload hx hb dL_law_707 (lv_at hl 5 rfl) ?_
  refine lv_iconst (v := nI 1) hx hb dL_law_709 (by decide) ?_
  refine lv_iadd hx hb dL_law_710 ?_
  refine va_sld hx hb hX hbl hbA hS v1 dL_law_711 ?_
  refine xtop e1 ?_
  refine lv_aload_n hx hb dL_law_712 rfl (lv_at hl 1 rfl) ?_
  refine lv_iload hx hb dL_law_713 (lv_at hl 5 rfl) ?_
  refine lv_iconst (v := nI 2) hx hb dL_law_715 (by decide) ?_
  refine lv_iadd hx hb dL_law_716 ?_
  refine va_sld hx hb hX hbl hbA hS v2 dL_law_717 ?_
  refine xtop e2 ?_
  refine lv_aload_n hx hb dL_law_718 rfl (lv_at hl 1 rfl) ?_
  refine lv_iload hx hb dL_law_719 (lv_at hl 5 rfl) ?_
  refine lv_iconst (v := nI 3) hx hb dL_law_721 (by decide) ?_
  refine lv_iadd hx hb dL_law_722 ?_
  refine va_sld hx hb hX hbl hbA hS v3 dL_law_723 ?_
  refine xtop e3 ?_
  refine lv_aload_n hx hb dL_law_724 rfl (lv_at hl 1 rfl) ?_
  refine lv_iload hx hb dL_law_725 (lv_at hl 5 rfl) ?_
  refine lv_iconst (v := nI 4) hx hb dL_law_727 (by decide) ?_
  refine lv_iadd hx hb dL_law_728 ?_
  refine va_sld hx hb hX hbl hbA hS v4 dL_law_729 ?_
  refine xtop e4 ?_
  refine xcvQ (As := [.int a1, .int a2, .int a3, .int a4]) (rest := []) ⟨hx, hb, hml, hown, hts⟩ (mX8_rule l s.heap.size D E h1 σ th r (arN ar H.size) hM1 hMW a1 a2 a3 a4) (cwV 4 hts gL_law_X8_rule rfl rfl rfl (by decide +kernel) ⟨Nat.le_of_ble_eq_true rfl, Nat.le_of_ble_eq_true rfl⟩) I hS hM1.1 rfl rfl hl.1 rfl (Nat.le_of_ble_eq_true rfl) dL_law_730 ⟨show cells + 5 + 0 ≤ 601024 by omega, show slots + 30 + 0 ≤ 7293034 by omega⟩ (fun v9 h2 H2 locs q9 I hS => ?_)
  obtain ⟨rfl, hM2, hF2⟩ := q9
  obtain ⟨ho2, hLI⟩ := l_next hR1 h00 hM2 hB1 hF2 hou ho1 hRel1 hW1
  refine W.eq (g2 := F0 m 733 ls []) rfl ?_
  refine lv_aload_n hx hb dL_law_733 rfl (lv_at hl 3 rfl) ?_
  refine xcvR (As := ([] : List Value)) (rest := []) ⟨hx, hb, hml, hown, hts⟩ (mX8_thrown l s.heap.size D E h2 _ _ r _ hM2 (hRel1.MW hW1)) (cwV 0 hts gL_law_X8_thrown rfl rfl rfl (by decide +kernel) ⟨Nat.le_of_ble_eq_true rfl, Nat.le_of_ble_eq_true rfl⟩) I hM2.1 rfl rfl hl.1 rfl (Nat.le_of_ble_eq_true rfl) dL_law_734 ⟨show cells + 5 + 0 + 0 ≤ 601024 by omega, show slots + 30 + 0 + 0 ≤ 7293034 by omega⟩ ?_
  refine W.eq (g2 := F0 m 737 ls [.int (fX8_rule σ th a1 a2 a3 a4).2]) rfl ?_
  refine xtop (show Value.int (fX8_rule σ th a1 a2 a3 a4).2 = .int k1 by rw [ek1]) ?_
  refine lv_iload hx hb dL_law_737 (lv_at hl 0 rfl) ?_
  refine lv_icmp_eq (tgt := 744) hx hb dL_law_739 (by decide) (fun c1 => ?_) (fun c1 => absurd rfl c1)
  refine lv_goto (tgt := 2238) hx hb dL_law_744 (by decide) ?_
  exact W.widen (by omega) (by omega) (kk _ _ _ _ hLI I hS (lv_sub hl [1, 2, 3, 4, 5] rfl))
set_option maxHeartbeats 4000000 in
set_option maxRecDepth 100000 in
theorem lc_pool {p : Program} {l : Launch} {e : Env} {s : State} {m : MethodId} {below : List Frame} {meth : Method} {c : Code} {b L : Nat} {xs : Nat → Int32} {Q : State → Prop} {D : va_G} {E : Nat → ClassId} {h : XW} {H : Heap} {locs : List Loc} {cells slots X r ou i : Nat} {ls : Array Slot} (F : LF p l s m c b L xs) (hI : LI E X r ou h) (I : XI s.heap.size D E h s H) (hS : va_S (xA s.heap.size) s.heap H locs) (hcs : cells + 9 ≤ 601024 ∧ slots + 65 ≤ 7293034) (hi : i + 6 ≤ L) (hL : L ≤ 3072) (hl : lv_has ls 8 [(0, .ref b), (1, .ref X), (2, .ref r), (3, .ref ou), (4, .int (nI i))])
    (kk : ∀ (h2 : XW) (H2 : Heap) (locs2 : List Loc) (ls2 : Array Slot), LI E X r ou h2 → XI s.heap.size D E h2 s H2 → va_S (xA s.heap.size) s.heap H2 locs2 → lv_has ls2 8 [(0, .ref b), (1, .ref X), (2, .ref r), (3, .ref ou), (4, .int (nI i))] → W p l e room_1 s m #[Value.ref b] below meth c H2 locs2 (cells + 9) (slots + 65) Q (F0 m 2238 ls2 [])) : W p l e room_1 s m #[Value.ref b] below meth c H locs cells slots Q (F0 m 747 ls []) := by
  obtain ⟨hx, hb, hml, hown, hts, hX, hbl, hCa, hlst⟩ := F
  obtain ⟨σ, τ, th, ad, fa, ar, fo, hR, rfl, hM, hou, ho, hRel, hW⟩ := hI
  have hMW := hRel.MW hW
  have hbA : ¬ xA s.heap.size b := Nat.not_le.mpr hbl
  have v1 : vp_in (nI i + nI 1) L := by rw [nI_add]; exact vp_in_nI (by omega) (by omega)
  obtain ⟨a1, ea1⟩ : ∃ y : Int32, y = xs (nI i + nI 1).toNatClampNeg := ⟨_, rfl⟩
  have e1 : Value.int (xs (nI i + nI 1).toNatClampNeg) = .int a1 := by rw [ea1]
  have v2 : vp_in (nI i + nI 2) L := by rw [nI_add]; exact vp_in_nI (by omega) (by omega)
  obtain ⟨a2, ea2⟩ : ∃ y : Int32, y = xs (nI i + nI 2).toNatClampNeg := ⟨_, rfl⟩
  have e2 : Value.int (xs (nI i + nI 2).toNatClampNeg) = .int a2 := by rw [ea2]
  have v3 : vp_in (nI i + nI 3) L := by rw [nI_add]; exact vp_in_nI (by omega) (by omega)
  obtain ⟨a3, ea3⟩ : ∃ y : Int32, y = xs (nI i + nI 3).toNatClampNeg := ⟨_, rfl⟩
  have e3 : Value.int (xs (nI i + nI 3).toNatClampNeg) = .int a3 := by rw [ea3]
  have v4 : vp_in (nI i + nI 4) L := by rw [nI_add]; exact vp_in_nI (by omega) (by omega)
  obtain ⟨a4, ea4⟩ : ∃ y : Int32, y = xs (nI i + nI 4).toNatClampNeg := ⟨_, rfl⟩
  have e4 : Value.int (xs (nI i + nI 4).toNatClampNeg) = .int a4 := by rw [ea4]
  have q := q_pool hRel hW th a1 a2 a3 a4
  refine lv_aload_n hx hb dL_law_747 rfl (lv_at hl 1 rfl) ?_
  refine lv_aload_n hx hb dL_law_748 rfl (lv_at hl 0 rfl) ?_
  refine lv_iload hx hb dL_law_749 (lv_at hl 4 rfl) ?_
  refine lv_iconst (v := nI 1) hx hb dL_law_751 (by decide) ?_
  refine lv_iadd hx hb dL_law_752 ?_
  refine va_sld hx hb hX hbl hbA hS v1 dL_law_753 ?_
  refine xtop e1 ?_
  refine lv_aload_n hx hb dL_law_754 rfl (lv_at hl 0 rfl) ?_
  refine lv_iload hx hb dL_law_755 (lv_at hl 4 rfl) ?_
  refine lv_iconst (v := nI 2) hx hb dL_law_757 (by decide) ?_
  refine lv_iadd hx hb dL_law_758 ?_
  refine va_sld hx hb hX hbl hbA hS v2 dL_law_759 ?_
  refine xtop e2 ?_
  refine lv_aload_n hx hb dL_law_760 rfl (lv_at hl 0 rfl) ?_
  refine lv_iload hx hb dL_law_761 (lv_at hl 4 rfl) ?_
  refine lv_iconst (v := nI 3) hx hb dL_law_763 (by decide) ?_
  refine lv_iadd hx hb dL_law_764 ?_
  refine va_sld hx hb hX hbl hbA hS v3 dL_law_765 ?_
  refine xtop e3 ?_
  refine lv_aload_n hx hb dL_law_766 rfl (lv_at hl 0 rfl) ?_
  refine lv_iload hx hb dL_law_767 (lv_at hl 4 rfl) ?_
  refine lv_iconst (v := nI 4) hx hb dL_law_769 (by decide) ?_
  refine lv_iadd hx hb dL_law_770 ?_
  refine va_sld hx hb hX hbl hbA hS v4 dL_law_771 ?_
  refine xtop e4 ?_
  refine xcsW (As := [.ref (ad 0 0), .int a1, .int a2, .int a3, .int a4]) (rest := []) ⟨hx, hb, hml, hown, hts⟩ (mL_pool l s.heap.size D E h hlst (lPr r ou ar) τ ad fa hR hW ou fo (Or.inl rfl) ho a1 a2 a3 a4 (hE2 q)) (vx_cwSW 5 hts gL_law_L_pool rfl rfl rfl (by decide +kernel) ⟨Nat.le_of_ble_eq_true rfl, Nat.le_of_ble_eq_true rfl⟩) I hCa hS rfl hl.1 rfl (Nat.le_of_ble_eq_true rfl) dL_law_772 ⟨show cells + 5 ≤ 601024 by omega, show slots + 30 ≤ 7293034 by omega⟩ (fun v9 h1 H locs q9 I hS => ?_)
  obtain ⟨rfl, τ1, ad1, fa1, fo1, hRel1, hW1, hR1, h00, hpr, ho1, hans⟩ := l_post (by decide) hR rfl hW ho q q9
  obtain ⟨k1, ek1⟩ : ∃ y, y = (fX8_pool σ th a1 a2 a3 a4).2 := ⟨_, rfl⟩
  refine W.eq (g2 := F0 m 775 ls [.int (fX8_pool σ th a1 a2 a3 a4).2]) rfl ?_
  refine xtop (show Value.int (fX8_pool σ th a1 a2 a3 a4).2 = .int k1 by rw [ek1]) ?_
  refine lv_istore (lv' := [(5, .int k1), (0, .ref b), (1, .ref (ad 0 0)), (2, .ref r), (3, .ref ou), (4, .int (nI i))]) hx hb dL_law_775 hl (by decide) rfl (fun ls hl => ?_)
  have hM1 : RM E σ th r (arN ar H.size) h1 := (hM.keep (hpr r (Or.inr (Or.inl rfl)) hou.1.symm) (fun k hk ha => hpr (ar k) (Or.inr (Or.inr ⟨k, hk, ha, rfl⟩)) (hou.2 k hk ha).symm)).re (fun b e he => I.lt b e he)
  have hB1 : ∀ b e, h1 b = some e → b < H.size := fun b e he => I.lt b e he
  refine lv_aload_n hx hb dL_law_777 rfl (lv_at hl 3 rfl) ?_
  refine lv_aload_n hx hb dL_law_778 rfl (lv_at hl 1 rfl) ?_
  refine lv_iload hx hb dL_law_779 (lv_at hl 5 rfl) ?_
  refine lv_iconst (v := nI 1) hx hb dL_law_781 (by decide) ?_
  refine lv_iadd hx hb dL_law_782 ?_
  refine va_sld hx hb hX hbl hbA hS v1 dL_law_783 ?_
  refine xtop e1 ?_
  refine lv_aload_n hx hb dL_law_784 rfl (lv_at hl 1 rfl) ?_
  refine lv_iload hx hb dL_law_785 (lv_at hl 5 rfl) ?_
  refine lv_iconst (v := nI 2) hx hb dL_law_787 (by decide) ?_
  refine lv_iadd hx hb dL_law_788 ?_
  refine va_sld hx hb hX hbl hbA hS v2 dL_law_789 ?_
  refine xtop e2 ?_
  refine lv_aload_n hx hb dL_law_790 rfl (lv_at hl 1 rfl) ?_
  refine lv_iload hx hb dL_law_791 (lv_at hl 5 rfl) ?_
  refine lv_iconst (v := nI 3) hx hb dL_law_793 (by decide) ?_
  refine lv_iadd hx hb dL_law_794 ?_
  refine va_sld hx hb hX hbl hbA hS v3 dL_law_795 ?_
  refine xtop e3 ?_
  refine lv_aload_n hx hb dL_law_796 rfl (lv_at hl 1 rfl) ?_
  refine lv_iload hx hb dL_law_797 (lv_at hl 5 rfl) ?_
  refine lv_iconst (v := nI 4) hx hb dL_law_799 (by decide) ?_
  refine lv_iadd hx hb dL_law_800 ?_
  refine va_sld hx hb hX hbl hbA hS v4 dL_law_801 ?_
  refine xtop e4 ?_
  refine xcvQ (As := [.int a1, .int a2, .int a3, .int a4]) (rest := []) ⟨hx, hb, hml, hown, hts⟩ (mX8_pool l s.heap.size D E h1 σ th r (arN ar H.size) hM1 hMW a1 a2 a3 a4) (cwV 4 hts gL_law_X8_pool rfl rfl rfl (by decide +kernel) ⟨Nat.le_of_ble_eq_true rfl, Nat.le_of_ble_eq_true rfl⟩) I hS hM1.1 rfl rfl hl.1 rfl (Nat.le_of_ble_eq_true rfl) dL_law_802 ⟨show cells + 5 + 0 ≤ 601024 by omega, show slots + 30 + 0 ≤ 7293034 by omega⟩ (fun v9 h2 H2 locs q9 I hS => ?_)
  obtain ⟨rfl, hM2, hF2⟩ := q9
  obtain ⟨ho2, hLI⟩ := l_next hR1 h00 hM2 hB1 hF2 hou ho1 hRel1 hW1
  refine W.eq (g2 := F0 m 805 ls []) rfl ?_
  refine lv_aload_n hx hb dL_law_805 rfl (lv_at hl 3 rfl) ?_
  refine xcvR (As := ([] : List Value)) (rest := []) ⟨hx, hb, hml, hown, hts⟩ (mX8_thrown l s.heap.size D E h2 _ _ r _ hM2 (hRel1.MW hW1)) (cwV 0 hts gL_law_X8_thrown rfl rfl rfl (by decide +kernel) ⟨Nat.le_of_ble_eq_true rfl, Nat.le_of_ble_eq_true rfl⟩) I hM2.1 rfl rfl hl.1 rfl (Nat.le_of_ble_eq_true rfl) dL_law_806 ⟨show cells + 5 + 0 + 0 ≤ 601024 by omega, show slots + 30 + 0 + 0 ≤ 7293034 by omega⟩ ?_
  refine W.eq (g2 := F0 m 809 ls [.int (fX8_pool σ th a1 a2 a3 a4).2]) rfl ?_
  refine xtop (show Value.int (fX8_pool σ th a1 a2 a3 a4).2 = .int k1 by rw [ek1]) ?_
  refine lv_iload hx hb dL_law_809 (lv_at hl 0 rfl) ?_
  refine lv_icmp_eq (tgt := 816) hx hb dL_law_811 (by decide) (fun c1 => ?_) (fun c1 => absurd rfl c1)
  refine lv_goto (tgt := 2238) hx hb dL_law_816 (by decide) ?_
  exact W.widen (by omega) (by omega) (kk _ _ _ _ hLI I hS (lv_sub hl [1, 2, 3, 4, 5] rfl))
