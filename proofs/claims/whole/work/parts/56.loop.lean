/-! THE CLAIM OUT OF ONE WALK OF THE LAW'S BODY. Your part is whole_start (and what it stands on); all else here is the same for every law, but numbers. -/
def R_law : String := "CallClubLaw"
def lw_P (b : Addr) (xs : List Int32) (args : Array Value) (s : State) : Prop := args = #[.ref b] ∧ s.IntsAt b xs ∧ xs.length ≤ 3072 ∧ (Jvm.Cond.and given_1 narrow_1).before args s = true
def lw_Q (_ : Array Value) (s : State) (o : Outcome) (t : State) : Prop := o = .returned (some (.int 1)) ∧ Framed s o t [] 601024 7293034
def lw_Z (below : List Frame) (a : Array Value) (s : State) : State → Prop := fun t => ∃ o, t.status = .running ∧ Ended t below o ∧ lw_Q a s o t
/-- the law's own end, with 1 on the stack, nothing written that was there before, its room as the claim has it -/
theorem lw_ret {p : Program} {l : Launch} {e : Env} {s : State} {m : MethodId} {below : List Frame} {meth : Method} {c : Code} {b : Nat} (hx : p.tables.exec = Jvm.exec) (hb : c.code = code) (hr : meth.sig.returnType = ret) (hlocks : meth.locks = false) {pc : Nat} {H : Heap} {ls : Array Slot} (hdg : decode code pc = .ok (.ireturn, 1)) : W p l e room_1 s m #[Value.ref b] below meth c H [] 601024 7293034 (lw_Z below #[Value.ref b] s) (F0 m pc ls [.int 1]) := by
  intro T hT X
  obtain ⟨fs, hret, hrun, hended, hW, hframe⟩ := X.leave (v := some (.int 1)) (hlocks := hlocks) (fun h => by rw [hr] at h; cases h)
  have hmeth' : T.vm.method? m = some meth := X.method'
  refine ⟨T.setFrames fs, ?_, .returned (some (.int 1)), hrun, hended, rfl, ⟨_, rfl⟩, hW, hframe⟩
  jvm_step X.here [X.here.top, hx, hb, hdg, hmeth', hr, ret, narrow_b1]
  (try refine ⟨rfl, ?_⟩); (try refine ⟨rfl, ?_⟩)
  first | (intro acts; rw [hret _ acts rfl rfl rfl]) | rw [hret _ _ rfl rfl rfl]
  exact Steps.refl _
/-- what holds at the law's entry: the machine, the code, the tables' words (any of lw_tbl by 'hts w (by decide +kernel)'), the script of L ints xs at the cell b, what the Statement gives of the start (any of its parts by flat_of_before) -/
def lw_At (p : Program) (s : State) (m : MethodId) (meth : Method) (c : Code) (b L : Nat) (xs : Nat → Int32) : Prop :=
  p.tables.exec = Jvm.exec ∧ c.code = code ∧ meth.sig.returnType = ret ∧ c.maxLocals = 8 ∧ s.vm.findClass R_law = some m.cls ∧ (∀ w ∈ lw_tbl, w.before #[Value.ref b] s = true) ∧ va_X b L xs s s.heap ∧ b < s.heap.size ∧ meth.locks = false ∧ (Jvm.Cond.and given_1 narrow_1).before #[Value.ref b] s = true
theorem nI_inL {i L : Nat} (h : i < L) (hL : L < 2 ^ 31) : vp_in (nI i) L := vp_in_nI h hL
theorem and63 (x : Int32) : (x &&& nI 63).toInt < 0 ∨ 32 < (x &&& nI 63).toInt ∨ ∃ j, j ≤ 32 ∧ x &&& nI 63 = nI j := by
  by_cases h : (x &&& nI 63) < 0
  · rw [Int32.lt_iff_toInt_lt] at h; exact Or.inl h
  · obtain ⟨j, hj, e⟩ := nI_of h
    by_cases h2 : j ≤ 32
    · exact Or.inr (Or.inr ⟨j, h2, e⟩)
    · refine Or.inr (Or.inl ?_)
      rw [e, nI_toInt hj]
      omega
set_option maxHeartbeats 4000000 in
set_option maxRecDepth 100000 in
theorem law_loop {p : Program} {l : Launch} {e : Env} {s : State} {m : MethodId} {below : List Frame} {meth : Method} {c : Code} {b L : Nat} {xs : Nat → Int32} {D : va_G} {E : Nat → ClassId} {X r ou : Nat} (F : LF p l s m c b L xs) (hr : meth.sig.returnType = ret) (hlocks : meth.locks = false) (hL : L ≤ 3072) :
    ∀ (n i : Nat), i ≤ L → L + 1 ≤ i + n → ∀ (h : XW) (H : Heap) (locs : List Loc) (cells slots : Nat) (ls : Array Slot), 6 * cells + 9 * (L - i) ≤ 3606144 → 6 * slots + 65 * (L - i) ≤ 43758204 → LI E X r ou h → XI s.heap.size D E h s H → va_S (xA s.heap.size) s.heap H locs → lv_has ls 8 [(0, .ref b), (1, .ref X), (2, .ref r), (3, .ref ou), (4, .int (nI i))] →
      W p l e room_1 s m #[Value.ref b] below meth c H locs cells slots (lw_Z below #[Value.ref b] s) (F0 m 23 ls []) := by
  obtain ⟨hx, hb, hml, hown, hts, hX, hbl, hCa, hlst⟩ := id F
  have hbA : ¬ xA s.heap.size b := Nat.not_le.mpr hbl
  intro n
  induction n with
  | zero => intro i h1 h2; exact absurd h2 (by omega)
  | succ n ih =>
    intro i hi hin h H locs cells slots ls hc1 hc2 hI I hS hl
    refine lv_iload hx hb dL_law_23 (lv_at hl 4 rfl) ?_
    refine lv_aload_n hx hb dL_law_25 rfl (lv_at hl 0 rfl) ?_
    refine va_slen hx hb hX hbl hbA hS dL_law_26 ?_
    refine lv_bipush (v := nI 6) hx hb dL_law_27 (by decide) ?_
    refine lv_isub hx hb dL_law_29 ?_
    have hsub : (nI L - nI 6).toInt = (L : Int) - 6 := by
      rw [Int32.toInt_sub, nI_toInt (by omega), nI_toInt (by omega)]
      exact Int.bmod_eq_of_le (by omega) (by omega)
    have hcmp : nI L - nI 6 < nI i ↔ L < i + 6 := by
      rw [Int32.lt_iff_toInt_lt, hsub, nI_toInt (by omega)]
      omega
    refine lv_icmp_gt (tgt := 2244) hx hb dL_law_30 (by decide) (fun c1 => ?_) (fun c1 => ?_)
    · refine lv_iconst (v := 1) hx hb dL_law_2244 (by decide) ?_
      refine va_forget (fun q hq => hS.2.2 q hq) ?_
      refine W.widen (k := 601024) (n := 7293034) (by omega) (by omega) ?_
      exact lw_ret hx hb hr hlocks dL_law_2245
    · have hi6 : i + 6 ≤ L := by
        have : ¬ L < i + 6 := fun z => c1 (hcmp.mpr z)
        omega
      refine lv_aload_n hx hb dL_law_33 rfl (lv_at hl 0 rfl) ?_
      refine lv_iload hx hb dL_law_34 (lv_at hl 4 rfl) ?_
      refine va_sld hx hb hX hbl hbA hS (nI_inL (show i < L by omega) (by omega)) dL_law_36 ?_
      refine lv_bipush (v := nI 63) hx hb dL_law_37 (by decide) ?_
      refine lv_iand hx hb dL_law_39 ?_
      have hcs : cells + 9 ≤ 601024 ∧ slots + 65 ≤ 7293034 := ⟨by omega, by omega⟩
      have kk : ∀ (h2 : XW) (H2 : Heap) (locs2 : List Loc) (ls2 : Array Slot), LI E X r ou h2 → XI s.heap.size D E h2 s H2 → va_S (xA s.heap.size) s.heap H2 locs2 → lv_has ls2 8 [(0, .ref b), (1, .ref X), (2, .ref r), (3, .ref ou), (4, .int (nI i))] → W p l e room_1 s m #[Value.ref b] below meth c H2 locs2 (cells + 9) (slots + 65) (lw_Z below #[Value.ref b] s) (F0 m 2238 ls2 []) := by
        intro h2 H2 locs2 ls2 hI2 I2 hS2 hl2
        refine lv_iinc (v := nI (i + 6)) (lv' := [(4, .int (nI (i + 6))), (0, .ref b), (1, .ref X), (2, .ref r), (3, .ref ou)]) hx hb dL_law_2238 hl2 (k := 4) rfl (nI_add i 6) (by decide) rfl (fun ls hl => ?_)
        refine lv_goto (tgt := 23) hx hb dL_law_2241 (by decide) ?_
        exact ih (i + 6) hi6 (by omega) h2 H2 locs2 _ _ ls (by omega) (by omega) hI2 I2 hS2 (lv_sub hl [1, 2, 3, 4, 0] rfl)
      generalize hg : xs (nI i).toNatClampNeg &&& nI 63 = g
      rcases and63 (xs (nI i).toNatClampNeg) with h63 | h63 | ⟨j, hj, h63⟩
      · rw [hg] at h63
        refine lv_tableOut (tgt := 2238) hx hb dL_law_40 (Or.inl h63) (by decide) ?_
        exact W.widen (by omega) (by omega) (kk h H locs ls hI I hS hl)
      · rw [hg] at h63
        refine lv_tableOut (tgt := 2238) hx hb dL_law_40 (Or.inr h63) (by decide) ?_
        exact W.widen (by omega) (by omega) (kk h H locs ls hI I hS hl)
      · rw [hg] at h63
        subst h63
        rcases (show j = 0 ∨ j = 1 ∨ j = 2 ∨ j = 3 ∨ j = 4 ∨ j = 5 ∨ j = 6 ∨ j = 7 ∨ j = 8 ∨ j = 9 ∨ j = 10 ∨ j = 11 ∨ j = 12 ∨ j = 13 ∨ j = 14 ∨ j = 15 ∨ j = 16 ∨ j = 17 ∨ j = 18 ∨ j = 19 ∨ j = 20 ∨ j = 21 ∨ j = 22 ∨ j = 23 ∨ j = 24 ∨ j = 25 ∨ j = 26 ∨ j = 27 ∨ j = 28 ∨ j = 29 ∨ j = 30 ∨ j = 31 ∨ j = 32 by omega) with rfl | rfl | rfl | rfl | rfl | rfl | rfl | rfl | rfl | rfl | rfl | rfl | rfl | rfl | rfl | rfl | rfl | rfl | rfl | rfl | rfl | rfl | rfl | rfl | rfl | rfl | rfl | rfl | rfl | rfl | rfl | rfl | rfl
        · exact lv_tableIn (tgt := 188) (off := 148) hx hb dL_law_40 (by decide) (by decide) rfl (by decide) (lc_member F hI I hS hcs hi6 hL hl kk)
        · exact lv_tableIn (tgt := 232) (off := 192) hx hb dL_law_40 (by decide) (by decide) rfl (by decide) (lc_ship F hI I hS hcs hi6 hL hl kk)
        · exact lv_tableIn (tgt := 300) (off := 260) hx hb dL_law_40 (by decide) (by decide) rfl (by decide) (lc_enter F hI I hS hcs hi6 hL hl kk)
        · exact lv_tableIn (tgt := 336) (off := 296) hx hb dL_law_40 (by decide) (by decide) rfl (by decide) (lc_leave F hI I hS hcs hi6 hL hl kk)
        · exact lv_tableIn (tgt := 392) (off := 352) hx hb dL_law_40 (by decide) (by decide) rfl (by decide) (lc_pass F hI I hS hcs hi6 hL hl kk)
        · exact lv_tableIn (tgt := 448) (off := 408) hx hb dL_law_40 (by decide) (by decide) rfl (by decide) (lc_day F hI I hS hcs hi6 hL hl kk)
        · exact lv_tableIn (tgt := 461) (off := 421) hx hb dL_law_40 (by decide) (by decide) rfl (by decide) (lc_rate F hI I hS hcs hi6 hL hl kk)
        · exact lv_tableIn (tgt := 541) (off := 501) hx hb dL_law_40 (by decide) (by decide) rfl (by decide) (lc_weight F hI I hS hcs hi6 hL hl kk)
        · exact lv_tableIn (tgt := 608) (off := 568) hx hb dL_law_40 (by decide) (by decide) rfl (by decide) (lc_weightAnew F hI I hS hcs hi6 hL hl kk)
        · exact lv_tableIn (tgt := 675) (off := 635) hx hb dL_law_40 (by decide) (by decide) rfl (by decide) (lc_rule F hI I hS hcs hi6 hL hl kk)
        · exact lv_tableIn (tgt := 747) (off := 707) hx hb dL_law_40 (by decide) (by decide) rfl (by decide) (lc_pool F hI I hS hcs hi6 hL hl kk)
        · exact lv_tableIn (tgt := 819) (off := 779) hx hb dL_law_40 (by decide) (by decide) rfl (by decide) (lc_claim F hI I hS hcs hi6 hL hl kk)
        · exact lv_tableIn (tgt := 923) (off := 883) hx hb dL_law_40 (by decide) (by decide) rfl (by decide) (lc_collide F hI I hS hcs hi6 hL hl kk)
        · exact lv_tableIn (tgt := 1027) (off := 987) hx hb dL_law_40 (by decide) (by decide) rfl (by decide) (lc_estimate F hI I hS hcs hi6 hL hl kk)
        · exact lv_tableIn (tgt := 1095) (off := 1055) hx hb dL_law_40 (by decide) (by decide) rfl (by decide) (lc_settle F hI I hS hcs hi6 hL hl kk)
        · exact lv_tableIn (tgt := 1159) (off := 1119) hx hb dL_law_40 (by decide) (by decide) rfl (by decide) (lc_broken F hI I hS hcs hi6 hL hl kk)
        · exact lv_tableIn (tgt := 1195) (off := 1155) hx hb dL_law_40 (by decide) (by decide) rfl (by decide) (lc_ofClaim F hI I hS hcs hi6 hL hl kk)
        · exact lv_tableIn (tgt := 1262) (off := 1222) hx hb dL_law_40 (by decide) (by decide) rfl (by decide) (lc_ofEvent F hI I hS hcs hi6 hL hl kk)
        · exact lv_tableIn (tgt := 1329) (off := 1289) hx hb dL_law_40 (by decide) (by decide) rfl (by decide) (lc_cost F hI I hS hcs hi6 hL hl kk)
        · exact lv_tableIn (tgt := 1384) (off := 1344) hx hb dL_law_40 (by decide) (by decide) rfl (by decide) (lc_advance F hI I hS hcs hi6 hL hl kk)
        · exact lv_tableIn (tgt := 1452) (off := 1412) hx hb dL_law_40 (by decide) (by decide) rfl (by decide) (lc_further F hI I hS hcs hi6 hL hl kk)
        · exact lv_tableIn (tgt := 1520) (off := 1480) hx hb dL_law_40 (by decide) (by decide) rfl (by decide) (lc_release F hI I hS hcs hi6 hL hl kk)
        · exact lv_tableIn (tgt := 1588) (off := 1548) hx hb dL_law_40 (by decide) (by decide) rfl (by decide) (lc_pay F hI I hS hcs hi6 hL hl kk)
        · exact lv_tableIn (tgt := 1655) (off := 1615) hx hb dL_law_40 (by decide) (by decide) rfl (by decide) (lc_stop F hI I hS hcs hi6 hL hl kk)
        · exact lv_tableIn (tgt := 1723) (off := 1683) hx hb dL_law_40 (by decide) (by decide) rfl (by decide) (lc_close F hI I hS hcs hi6 hL hl kk)
        · exact lv_tableIn (tgt := 1778) (off := 1738) hx hb dL_law_40 (by decide) (by decide) rfl (by decide) (lc_due F hI I hS hcs hi6 hL hl kk)
        · exact lv_tableIn (tgt := 1845) (off := 1805) hx hb dL_law_40 (by decide) (by decide) rfl (by decide) (lc_owes F hI I hS hcs hi6 hL hl kk)
        · exact lv_tableIn (tgt := 1900) (off := 1860) hx hb dL_law_40 (by decide) (by decide) rfl (by decide) (lc_result F hI I hS hcs hi6 hL hl kk)
        · exact lv_tableIn (tgt := 1955) (off := 1915) hx hb dL_law_40 (by decide) (by decide) rfl (by decide) (lc_isClosed F hI I hS hcs hi6 hL hl kk)
        · exact lv_tableIn (tgt := 2018) (off := 1978) hx hb dL_law_40 (by decide) (by decide) rfl (by decide) (lc_reserve F hI I hS hcs hi6 hL hl kk)
        · exact lv_tableIn (tgt := 2032) (off := 1992) hx hb dL_law_40 (by decide) (by decide) rfl (by decide) (lc_letter F hI I hS hcs hi6 hL hl kk)
        · exact lv_tableIn (tgt := 2100) (off := 2060) hx hb dL_law_40 (by decide) (by decide) rfl (by decide) (lc_arrest F hI I hS hcs hi6 hL hl kk)
        · exact lv_tableIn (tgt := 2175) (off := 2135) hx hb dL_law_40 (by decide) (by decide) rfl (by decide) (lc_isArrested F hI I hS hcs hi6 hL hl kk)
