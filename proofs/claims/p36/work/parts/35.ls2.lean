def fS913_B1065 (σ : LT) (τ : CT) (q12 : Int64) (n14 : Nat) (n15 : Nat) (n16 : Nat) (n17 : Nat) (y1 : Int32) (v1065_0 : Int32) : Option ST := (lcall none (fX7_settle τ (nI (lowN y1 n15)) v1065_0) (fun x1072 => (if v1065_0 = 0 then (some ((lSK σ 3 (6 * (lowN y1 n15) + 5) ((lK σ 3 (6 * (lowN y1 n15) + 5)) ||| 1)), x1072, q12, n14, n15, n16, n17)) else (some ((lSK (lSK σ 3 (6 * (lowN y1 n15) + 5) ((lK σ 3 (6 * (lowN y1 n15) + 5)) ||| 1)) 3 (6 * (lowN y1 n15) + 3) 0), x1072, q12, n14, n15, n16, n17)))))
def fS913_B986 (σ : LT) (τ : CT) (q12 : Int64) (n14 : Nat) (n15 : Nat) (n16 : Nat) (n17 : Nat) (y1 : Int32) : Option ST := (if lowN (y1 >>> ((nI 4) &&& 31)) 3 = 1 then (lcall none (fX7_estimate τ (nI (lowN y1 n15)) (nI (lowN (y1 >>> ((nI 6) &&& 31)) 9000000))) (fun x1015 => (if x1015.1 = (nI (lK σ 3 (6 * (lowN y1 n15) + 3))) then (some ((lSK σ 3 (6 * (lowN y1 n15) + 3) (lowN (y1 >>> ((nI 6) &&& 31)) 9000000)), x1015.2, q12, n14, n15, n16, n17)) else none))) else (fS913_B1065 σ τ q12 n14 n15 n16 n17 y1 (if lowN (y1 >>> ((nI 6) &&& 31)) 3 = 0 then (nI 1) else (nI 0))))
def fS913 (σ : LT) (τ : CT) (q12 : Int64) (n14 : Nat) (n15 : Nat) (n16 : Nat) (n17 : Nat) (y1 : Int32) : Option ST := (if (lK σ 3 (6 * (lowN y1 n15) + 5)) &&& 1 = 0 then (if lowN (y1 >>> ((nI 4) &&& 31)) 3 = 0 then (if (lK σ 3 (6 * (lowN y1 n15) + 5)) &&& 2 = 0 then (lcall none (fX7_broken τ (nI (lowN y1 n15))) (fun x966 => (some ((lSK σ 3 (6 * (lowN y1 n15) + 5) ((lK σ 3 (6 * (lowN y1 n15) + 5)) ||| 2)), x966, q12, n14, n15, n16, n17)))) else (fS913_B986 σ τ q12 n14 n15 n16 n17 y1)) else (fS913_B986 σ τ q12 n14 n15 n16 n17 y1)) else (some (σ, τ, q12, n14, n15, n16, n17)))
set_option maxHeartbeats 4000000 in
set_option maxRecDepth 100000 in
theorem sS913 {p : Program} {l : Launch} {e : Env} {s : State} {m : MethodId} {below : List Frame} {meth : Method} {c : Code} {b L : Nat} {xs : Nat → Int32} {Q : State → Prop} {D : va_G} {E : Nat → ClassId} {σ : LT} {τ : CT} {ad : Nat → Nat → Nat} {fa : Nat → Nat → Option Nat} {ar : Nat → Nat} {h : XW} {H : Heap} {locs : List Loc} {cells slots K Ks : Nat}  {q12 : Int64} {n14 n15 n16 n17 n18 n19 : Nat} {y1 : Int32} {st : ST} {ls : Array Slot} (F : LF p l s m c b L xs) (I : XI s.heap.size D E h s H) (hL : RA E σ ar h) (hR : RC E (lPr ar) τ ad fa h) (hS : va_S (xA s.heap.size) s.heap H locs) (hW : LW σ) (hC : CW τ)  (h14 : n14 ≤ 12) (h15 : n15 ≤ 10) (h16 : n16 ≤ 10) (h17 : n17 < 300) (h18 : n18 < 1000) (h19 : n19 < 44) (h15b : 0 < n15) (hc1 : cells + 100 ≤ K) (hc2 : slots + 1000 ≤ Ks) (hK1 : K ≤ 600086) (hK2 : Ks ≤ 7301442) (hl : lv_has ls 39 [(0, .ref b), (1, .ref (ad 0 0)), (2, .ref (ar 0)), (3, .ref (ar 1)), (4, .ref (ar 2)), (5, .ref (ar 3)), (6, .ref (ar 4)), (7, .ref (ar 5)), (8, .ref (ar 6)), (9, .ref (ar 8)), (10, .ref (ar 7)), (11, .ref (ar 9)), (12, .long q12), (14, .int (nI n14)), (15, .int (nI n15)), (16, .int (nI n16)), (17, .int (nI n17)), (18, .int (nI n18)), (19, .int (nI n19)), (21, .int y1)]) (kk : lKK p l e s m below meth c b D E ar Q K Ks n18 n19 2560 st) (hG : fS913 σ τ q12 n14 n15 n16 n17 y1 = some st) : W p l e room_1 s m #[Value.ref b] below meth c H locs cells slots Q (F0 m 913 ls []) := by
  obtain ⟨hx, hb, hml, hown, hts, hX, hbl, hCa, hlst, hLL⟩ := id F
  have hbA : ¬ xA s.heap.size b := Nat.not_le.mpr hbl
  unfold fS913 at hG
  refine lv_iload hx hb dL_law_913 (lv_at hl 19 rfl) ?_
  refine lv_iload hx hb dL_law_915 (lv_at hl 14 rfl) ?_
  refine xcsR (As := [.int y1, .int (nI n15)]) (rest := []) (v := some (.int (nI (lowN y1 n15)))) ⟨hx, hb, hml, hown, hts⟩ (mL_low l s.heap.size D E h y1 n15 (by first | assumption | omega) (by first | assumption | omega)) (va_cwS 2 hts gL_law_L_low rfl rfl rfl (by decide +kernel) ⟨Nat.le_of_ble_eq_true rfl, Nat.le_of_ble_eq_true rfl⟩) I rfl hl.1 rfl (Nat.le_of_ble_eq_true rfl) dL_law_917 ⟨show cells + 0 ≤ 600086 by omega, show slots + 0 ≤ 7301442 by omega⟩ ?_
  refine W.eq (g2 := F0 m 920 ls [.int (nI (lowN y1 n15))]) rfl ?_
  have l917 : lowN y1 n15 < n15 := lowN_lt _ (by omega)
  refine lv_istore (lv' := [(26, .int (nI (lowN y1 n15))), (0, .ref b), (1, .ref (ad 0 0)), (2, .ref (ar 0)), (3, .ref (ar 1)), (4, .ref (ar 2)), (5, .ref (ar 3)), (6, .ref (ar 4)), (7, .ref (ar 5)), (8, .ref (ar 6)), (9, .ref (ar 8)), (10, .ref (ar 7)), (11, .ref (ar 9)), (12, .long q12), (14, .int (nI n14)), (15, .int (nI n15)), (16, .int (nI n16)), (17, .int (nI n17)), (18, .int (nI n18)), (19, .int (nI n19)), (21, .int y1)]) hx hb dL_law_920 hl (by decide) rfl (fun ls hl => ?_)
  refine lv_aload hx hb dL_law_922 (lv_at hl 6 rfl) ?_
  refine lv_bipush (v := (nI 6)) hx hb dL_law_924 (by decide) ?_
  refine lv_iload hx hb dL_law_926 (lv_at hl 0 rfl) ?_
  refine lv_imul hx hb dL_law_928 ?_
  refine xtop (y := .int (nI (6 * (lowN y1 n15)))) (congrArg Value.int (pk_mul _ _)) ?_
  refine lv_iconst (v := (nI 5)) hx hb dL_law_929 (by decide) ?_
  refine lv_iadd hx hb dL_law_930 ?_
  refine xtop (y := .int (nI (6 * (lowN y1 n15) + 5))) (congrArg Value.int (nI_add _ _)) ?_
  refine xiald (i := (6 * (lowN y1 n15) + 5)) (n := 64) hx hb I (hL.1 3 64 (by decide)) (by omega) (by decide) dL_law_931 ?_
  have g931 : lK σ 3 (6 * (lowN y1 n15) + 5) < 1073741824 := hW.2.2.2.2.2.1 3 (6 * (lowN y1 n15) + 5)
  refine lv_iconst (v := (nI 1)) hx hb dL_law_932 (by decide) ?_
  refine lv_iand hx hb dL_law_933 ?_
  refine xtop (y := .int (nI ((lK σ 3 (6 * (lowN y1 n15) + 5)) &&& 1))) (congrArg Value.int nI_and) ?_
  have h933 : (lK σ 3 (6 * (lowN y1 n15) + 5)) &&& 1 ≤ 1 := Nat.and_le_right
  refine lv_if_ne (tgt := 1105) hx hb dL_law_934 (by decide) (fun c_934 => ?_) (fun c_934 => ?_)
  · skip
    have c_934 : ¬ (lK σ 3 (6 * (lowN y1 n15) + 5)) &&& 1 = 0 := fun q => c_934 ((nI_eq (a := ((lK σ 3 (6 * (lowN y1 n15) + 5)) &&& 1)) (b := 0) (by omega) (by omega)).mpr q)
    rw [if_neg c_934] at hG
    refine lv_goto (tgt := 2560) hx hb dL_law_1105 (by decide) ?_
    have hst := Option.some.inj (show some (σ, τ, q12, n14, n15, n16, n17) = some st from hG)
    subst hst
    exact W.widen (by omega) (by omega) (kk _ _ _ _ _ _ I hL hR hS hW hC (lv_sub hl [1, 2, 3, 4, 5, 6, 7, 8, 9, 10, 11, 12, 13, 14, 15, 16, 17, 18, 19] rfl))
  · skip
    have c_934 : (lK σ 3 (6 * (lowN y1 n15) + 5)) &&& 1 = 0 := (nI_eq (a := ((lK σ 3 (6 * (lowN y1 n15) + 5)) &&& 1)) (b := 0) (by omega) (by omega)).mp c_934
    rw [if_pos c_934] at hG
    refine lv_iload hx hb dL_law_937 (lv_at hl 20 rfl) ?_
    refine lv_iconst (v := (nI 4)) hx hb dL_law_939 (by decide) ?_
    refine lv_ishr hx hb dL_law_940 ?_
    refine lv_iconst (v := (nI 3)) hx hb dL_law_941 (by decide) ?_
    refine xcsR (As := [.int (y1 >>> ((nI 4) &&& 31)), .int (nI 3)]) (rest := []) (v := some (.int (nI (lowN (y1 >>> ((nI 4) &&& 31)) 3)))) ⟨hx, hb, hml, hown, hts⟩ (mL_low l s.heap.size D E h (y1 >>> ((nI 4) &&& 31)) 3 (by first | assumption | omega) (by first | assumption | omega)) (va_cwS 2 hts gL_law_L_low rfl rfl rfl (by decide +kernel) ⟨Nat.le_of_ble_eq_true rfl, Nat.le_of_ble_eq_true rfl⟩) I rfl hl.1 rfl (Nat.le_of_ble_eq_true rfl) dL_law_942 ⟨show cells + 0 ≤ 600086 by omega, show slots + 0 ≤ 7301442 by omega⟩ ?_
    refine W.eq (g2 := F0 m 945 ls [.int (nI (lowN (y1 >>> ((nI 4) &&& 31)) 3))]) rfl ?_
    have l942 : lowN (y1 >>> ((nI 4) &&& 31)) 3 < 3 := lowN_lt _ (by omega)
    have B986 : fS913_B986 σ τ q12 n14 n15 n16 n17 y1 = some st → ∀ ls : Array Slot, lv_has ls 39 [(0, .ref b), (1, .ref (ad 0 0)), (2, .ref (ar 0)), (3, .ref (ar 1)), (4, .ref (ar 2)), (5, .ref (ar 3)), (6, .ref (ar 4)), (7, .ref (ar 5)), (8, .ref (ar 6)), (9, .ref (ar 8)), (10, .ref (ar 7)), (11, .ref (ar 9)), (12, .long q12), (14, .int (nI n14)), (15, .int (nI n15)), (16, .int (nI n16)), (17, .int (nI n17)), (18, .int (nI n18)), (19, .int (nI n19)), (21, .int y1), (26, .int (nI (lowN y1 n15)))] → W p l e room_1 s m #[Value.ref b] below meth c H locs cells slots Q (F0 m 986 ls []) := by
      intro hG ls hl
      unfold fS913_B986 at hG
      refine lv_iload hx hb dL_law_986 (lv_at hl 19 rfl) ?_
      refine lv_iconst (v := (nI 4)) hx hb dL_law_988 (by decide) ?_
      refine lv_ishr hx hb dL_law_989 ?_
      refine lv_iconst (v := (nI 3)) hx hb dL_law_990 (by decide) ?_
      refine xcsR (As := [.int (y1 >>> ((nI 4) &&& 31)), .int (nI 3)]) (rest := []) (v := some (.int (nI (lowN (y1 >>> ((nI 4) &&& 31)) 3)))) ⟨hx, hb, hml, hown, hts⟩ (mL_low l s.heap.size D E h (y1 >>> ((nI 4) &&& 31)) 3 (by first | assumption | omega) (by first | assumption | omega)) (va_cwS 2 hts gL_law_L_low rfl rfl rfl (by decide +kernel) ⟨Nat.le_of_ble_eq_true rfl, Nat.le_of_ble_eq_true rfl⟩) I rfl hl.1 rfl (Nat.le_of_ble_eq_true rfl) dL_law_991 ⟨show cells + 0 ≤ 600086 by omega, show slots + 0 ≤ 7301442 by omega⟩ ?_
      refine W.eq (g2 := F0 m 994 ls [.int (nI (lowN (y1 >>> ((nI 4) &&& 31)) 3))]) rfl ?_
      have l991 : lowN (y1 >>> ((nI 4) &&& 31)) 3 < 3 := lowN_lt _ (by omega)
      refine lv_iconst (v := (nI 1)) hx hb dL_law_994 (by decide) ?_
      refine lv_icmp_ne (tgt := 1048) hx hb dL_law_995 (by decide) (fun c_995 => ?_) (fun c_995 => ?_)
      · skip
        have c_995 : ¬ lowN (y1 >>> ((nI 4) &&& 31)) 3 = 1 := fun q => c_995 ((nI_eq (a := (lowN (y1 >>> ((nI 4) &&& 31)) 3)) (b := 1) (by omega) (by omega)).mpr q)
        rw [if_neg c_995] at hG
        refine lv_iload hx hb dL_law_1048 (lv_at hl 19 rfl) ?_
        refine lv_bipush (v := (nI 6)) hx hb dL_law_1050 (by decide) ?_
        refine lv_ishr hx hb dL_law_1052 ?_
        refine lv_iconst (v := (nI 3)) hx hb dL_law_1053 (by decide) ?_
        refine xcsR (As := [.int (y1 >>> ((nI 6) &&& 31)), .int (nI 3)]) (rest := []) (v := some (.int (nI (lowN (y1 >>> ((nI 6) &&& 31)) 3)))) ⟨hx, hb, hml, hown, hts⟩ (mL_low l s.heap.size D E h (y1 >>> ((nI 6) &&& 31)) 3 (by first | assumption | omega) (by first | assumption | omega)) (va_cwS 2 hts gL_law_L_low rfl rfl rfl (by decide +kernel) ⟨Nat.le_of_ble_eq_true rfl, Nat.le_of_ble_eq_true rfl⟩) I rfl hl.1 rfl (Nat.le_of_ble_eq_true rfl) dL_law_1054 ⟨show cells + 0 ≤ 600086 by omega, show slots + 0 ≤ 7301442 by omega⟩ ?_
        refine W.eq (g2 := F0 m 1057 ls [.int (nI (lowN (y1 >>> ((nI 6) &&& 31)) 3))]) rfl ?_
        have l1054 : lowN (y1 >>> ((nI 6) &&& 31)) 3 < 3 := lowN_lt _ (by omega)
        have B1065 : ∀ (v1065_0 : Int32), (v1065_0 = 0 ∨ v1065_0 = 1) → fS913_B1065 σ τ q12 n14 n15 n16 n17 y1 v1065_0 = some st → ∀ ls : Array Slot, lv_has ls 39 [(0, .ref b), (1, .ref (ad 0 0)), (2, .ref (ar 0)), (3, .ref (ar 1)), (4, .ref (ar 2)), (5, .ref (ar 3)), (6, .ref (ar 4)), (7, .ref (ar 5)), (8, .ref (ar 6)), (9, .ref (ar 8)), (10, .ref (ar 7)), (11, .ref (ar 9)), (12, .long q12), (14, .int (nI n14)), (15, .int (nI n15)), (16, .int (nI n16)), (17, .int (nI n17)), (18, .int (nI n18)), (19, .int (nI n19)), (26, .int (nI (lowN y1 n15)))] → W p l e room_1 s m #[Value.ref b] below meth c H locs cells slots Q (F0 m 1065 ls [.int v1065_0]) := by
          intro v1065_0 zv1065_0 hG ls hl
          unfold fS913_B1065 at hG
          refine lv_istore (lv' := [(27, .int v1065_0), (0, .ref b), (1, .ref (ad 0 0)), (2, .ref (ar 0)), (3, .ref (ar 1)), (4, .ref (ar 2)), (5, .ref (ar 3)), (6, .ref (ar 4)), (7, .ref (ar 5)), (8, .ref (ar 6)), (9, .ref (ar 8)), (10, .ref (ar 7)), (11, .ref (ar 9)), (12, .long q12), (14, .int (nI n14)), (15, .int (nI n15)), (16, .int (nI n16)), (17, .int (nI n17)), (18, .int (nI n18)), (19, .int (nI n19)), (26, .int (nI (lowN y1 n15)))]) hx hb dL_law_1065 hl (by decide) rfl (fun ls hl => ?_)
          refine lv_aload_n hx hb dL_law_1067 rfl (lv_at hl 2 rfl) ?_
          refine lv_iload hx hb dL_law_1068 (lv_at hl 20 rfl) ?_
          refine lv_iload hx hb dL_law_1070 (lv_at hl 0 rfl) ?_
          cases e1072 : (fX7_settle τ (nI (lowN y1 n15)) v1065_0) with
          | inl En => rw [e1072] at hG; exact absurd (show (none : Option ST) = some st from hG) (fun z => nomatch z)
          | inr x1072 =>
            rw [e1072] at hG
            have hG : (if v1065_0 = 0 then (some ((lSK σ 3 (6 * (lowN y1 n15) + 5) ((lK σ 3 (6 * (lowN y1 n15) + 5)) ||| 1)), x1072, q12, n14, n15, n16, n17)) else (some ((lSK (lSK σ 3 (6 * (lowN y1 n15) + 5) ((lK σ 3 (6 * (lowN y1 n15) + 5)) ||| 1)) 3 (6 * (lowN y1 n15) + 3) 0), x1072, q12, n14, n15, n16, n17))) = some st := hG
            refine xcvN (As := [.int (nI (lowN y1 n15)), .int v1065_0]) (rest := []) ⟨hx, hb, hml, hown, hts⟩ (mX7_settle l s.heap.size D E h hlst (lPr ar) τ ad fa hR hC (nI (lowN y1 n15)) v1065_0 zv1065_0) (cwV 2 hts gL_law_X7_settle rfl rfl rfl (by decide +kernel) ⟨Nat.le_of_ble_eq_true rfl, Nat.le_of_ble_eq_true rfl⟩) I hS hR.f0 rfl rfl hl.1 rfl (Nat.le_of_ble_eq_true rfl) dL_law_1072 ⟨show cells + 2 ≤ 600086 by omega, show slots + 12 ≤ 7301442 by omega⟩ (fun En q => by rw [e1072] at q; cases q) (fun v9 hw H locs q9 I hS => ?_)
            obtain ⟨y9, e9, q1, hR, hF, hC⟩ := q9
            have e9 := Sum.inr.inj (e1072.symm.trans e9)
            subst e9
            subst q1
            have hL := hL.keep hF
            refine W.eq (g2 := F0 m 1075 ls []) rfl ?_
            refine lv_aload hx hb dL_law_1075 (lv_at hl 6 rfl) ?_
            refine lv_bipush (v := (nI 6)) hx hb dL_law_1077 (by decide) ?_
            refine lv_iload hx hb dL_law_1079 (lv_at hl 20 rfl) ?_
            refine lv_imul hx hb dL_law_1081 ?_
            refine xtop (y := .int (nI (6 * (lowN y1 n15)))) (congrArg Value.int (pk_mul _ _)) ?_
            refine lv_iconst (v := (nI 5)) hx hb dL_law_1082 (by decide) ?_
            refine lv_iadd hx hb dL_law_1083 ?_
            refine xtop (y := .int (nI (6 * (lowN y1 n15) + 5))) (congrArg Value.int (nI_add _ _)) ?_
            refine lv_dup2_11 hx hb dL_law_1084 rfl rfl ?_
            refine xiald (i := (6 * (lowN y1 n15) + 5)) (n := 64) hx hb I (hL.1 3 64 (by decide)) (by omega) (by decide) dL_law_1085 ?_
            have g1085 : lK σ 3 (6 * (lowN y1 n15) + 5) < 1073741824 := hW.2.2.2.2.2.1 3 (6 * (lowN y1 n15) + 5)
            refine lv_iconst (v := (nI 1)) hx hb dL_law_1086 (by decide) ?_
            refine lv_ior hx hb dL_law_1087 ?_
            refine xtop (y := .int (nI ((lK σ 3 (6 * (lowN y1 n15) + 5)) ||| 1))) (congrArg Value.int nI_or) ?_
            have o1087 : (lK σ 3 (6 * (lowN y1 n15) + 5)) ||| 1 < 2 ^ 30 := Nat.or_lt_two_pow (by omega) (by decide)
            refine xkS (x := ((lK σ 3 (6 * (lowN y1 n15) + 5)) ||| 1)) (i := (6 * (lowN y1 n15) + 5)) (n := 64) 3 hx hb I hS hL hR (by decide) (by omega) (by decide) dL_law_1088 (fun H locs hw I hL hR hS => ?_)
            have hW : LW (lSK σ 3 (6 * (lowN y1 n15) + 5) ((lK σ 3 (6 * (lowN y1 n15) + 5)) ||| 1)) := hW.sK 3 (6 * (lowN y1 n15) + 5) ((lK σ 3 (6 * (lowN y1 n15) + 5)) ||| 1) (by omega) (by intro z q; first | exact absurd z (by decide) | omega | (obtain ⟨i, hi⟩ := q; omega)) (by intro z q; first | exact absurd z (by decide) | omega | (obtain ⟨i, hi⟩ := q; omega)) (by intro z q; first | exact absurd z (by decide) | omega | (obtain ⟨i, hi⟩ := q; omega)) (by intro z q; first | exact absurd z (by decide) | omega | (obtain ⟨i, hi⟩ := q; omega)) (by intro z q; first | exact absurd z (by decide) | omega | (obtain ⟨i, hi⟩ := q; omega))
            refine lv_iload hx hb dL_law_1089 (lv_at hl 0 rfl) ?_
            refine lv_if_eq (tgt := 1105) hx hb dL_law_1091 (by decide) (fun c_1091 => ?_) (fun c_1091 => ?_)
            · skip
              rw [if_pos c_1091] at hG
              refine lv_goto (tgt := 2560) hx hb dL_law_1105 (by decide) ?_
              have hst := Option.some.inj (show some ((lSK σ 3 (6 * (lowN y1 n15) + 5) ((lK σ 3 (6 * (lowN y1 n15) + 5)) ||| 1)), x1072, q12, n14, n15, n16, n17) = some st from hG)
              subst hst
              exact W.widen (by omega) (by omega) (kk _ _ _ _ _ _ I hL hR hS hW hC (lv_sub hl [1, 2, 3, 4, 5, 6, 7, 8, 9, 10, 11, 12, 13, 14, 15, 16, 17, 18, 19] rfl))
            · skip
              rw [if_neg c_1091] at hG
              refine lv_aload hx hb dL_law_1094 (lv_at hl 6 rfl) ?_
              refine lv_bipush (v := (nI 6)) hx hb dL_law_1096 (by decide) ?_
              refine lv_iload hx hb dL_law_1098 (lv_at hl 20 rfl) ?_
              refine lv_imul hx hb dL_law_1100 ?_
              refine xtop (y := .int (nI (6 * (lowN y1 n15)))) (congrArg Value.int (pk_mul _ _)) ?_
              refine lv_iconst (v := (nI 3)) hx hb dL_law_1101 (by decide) ?_
              refine lv_iadd hx hb dL_law_1102 ?_
              refine xtop (y := .int (nI (6 * (lowN y1 n15) + 3))) (congrArg Value.int (nI_add _ _)) ?_
              refine lv_iconst (v := (nI 0)) hx hb dL_law_1103 (by decide) ?_
              refine xkS (x := 0) (i := (6 * (lowN y1 n15) + 3)) (n := 64) 3 hx hb I hS hL hR (by decide) (by omega) (by decide) dL_law_1104 (fun H locs hw I hL hR hS => ?_)
              have hW : LW (lSK (lSK σ 3 (6 * (lowN y1 n15) + 5) ((lK σ 3 (6 * (lowN y1 n15) + 5)) ||| 1)) 3 (6 * (lowN y1 n15) + 3) 0) := hW.sK 3 (6 * (lowN y1 n15) + 3) 0 (by omega) (by intro z q; first | exact absurd z (by decide) | omega | (obtain ⟨i, hi⟩ := q; omega)) (by intro z q; first | exact absurd z (by decide) | omega | (obtain ⟨i, hi⟩ := q; omega)) (by intro z q; first | exact absurd z (by decide) | omega | (obtain ⟨i, hi⟩ := q; omega)) (by intro z q; first | exact absurd z (by decide) | omega | (obtain ⟨i, hi⟩ := q; omega)) (by intro z q; first | exact absurd z (by decide) | omega | (obtain ⟨i, hi⟩ := q; omega))
              refine lv_goto (tgt := 2560) hx hb dL_law_1105 (by decide) ?_
              have hst := Option.some.inj (show some ((lSK (lSK σ 3 (6 * (lowN y1 n15) + 5) ((lK σ 3 (6 * (lowN y1 n15) + 5)) ||| 1)) 3 (6 * (lowN y1 n15) + 3) 0), x1072, q12, n14, n15, n16, n17) = some st from hG)
              subst hst
              exact W.widen (by omega) (by omega) (kk _ _ _ _ _ _ I hL hR hS hW hC (lv_sub hl [1, 2, 3, 4, 5, 6, 7, 8, 9, 10, 11, 12, 13, 14, 15, 16, 17, 18, 19] rfl))
        refine lv_if_ne (tgt := 1064) hx hb dL_law_1057 (by decide) (fun c_1057 => ?_) (fun c_1057 => ?_)
        · skip
          have c_1057 : ¬ lowN (y1 >>> ((nI 6) &&& 31)) 3 = 0 := fun q => c_1057 ((nI_eq (a := (lowN (y1 >>> ((nI 6) &&& 31)) 3)) (b := 0) (by omega) (by omega)).mpr q)
          rw [if_neg c_1057] at hG
          refine lv_iconst (v := (nI 0)) hx hb dL_law_1064 (by decide) ?_
          exact B1065 (nI 0) (Or.inl rfl) hG ls (lv_sub hl [0, 1, 2, 3, 4, 5, 6, 7, 8, 9, 10, 11, 12, 13, 14, 15, 16, 17, 18, 20] rfl)
        · skip
          have c_1057 : lowN (y1 >>> ((nI 6) &&& 31)) 3 = 0 := (nI_eq (a := (lowN (y1 >>> ((nI 6) &&& 31)) 3)) (b := 0) (by omega) (by omega)).mp c_1057
          rw [if_pos c_1057] at hG
          refine lv_iconst (v := (nI 1)) hx hb dL_law_1060 (by decide) ?_
          refine lv_goto (tgt := 1065) hx hb dL_law_1061 (by decide) ?_
          exact B1065 (nI 1) (Or.inr rfl) hG ls (lv_sub hl [0, 1, 2, 3, 4, 5, 6, 7, 8, 9, 10, 11, 12, 13, 14, 15, 16, 17, 18, 20] rfl)
      · skip
        have c_995 : lowN (y1 >>> ((nI 4) &&& 31)) 3 = 1 := (nI_eq (a := (lowN (y1 >>> ((nI 4) &&& 31)) 3)) (b := 1) (by omega) (by omega)).mp c_995
        rw [if_pos c_995] at hG
        refine lv_iload hx hb dL_law_998 (lv_at hl 19 rfl) ?_
        refine lv_bipush (v := (nI 6)) hx hb dL_law_1000 (by decide) ?_
        refine lv_ishr hx hb dL_law_1002 ?_
        refine lv_ldc (v := (nI 9000000)) hx hb hown (hts _ (List.mem_of_getElem? (i := 6) rfl)) dL_law_1003 ?_
        refine xcsR (As := [.int (y1 >>> ((nI 6) &&& 31)), .int (nI 9000000)]) (rest := []) (v := some (.int (nI (lowN (y1 >>> ((nI 6) &&& 31)) 9000000)))) ⟨hx, hb, hml, hown, hts⟩ (mL_low l s.heap.size D E h (y1 >>> ((nI 6) &&& 31)) 9000000 (by first | assumption | omega) (by first | assumption | omega)) (va_cwS 2 hts gL_law_L_low rfl rfl rfl (by decide +kernel) ⟨Nat.le_of_ble_eq_true rfl, Nat.le_of_ble_eq_true rfl⟩) I rfl hl.1 rfl (Nat.le_of_ble_eq_true rfl) dL_law_1005 ⟨show cells + 0 ≤ 600086 by omega, show slots + 0 ≤ 7301442 by omega⟩ ?_
        refine W.eq (g2 := F0 m 1008 ls [.int (nI (lowN (y1 >>> ((nI 6) &&& 31)) 9000000))]) rfl ?_
        have l1005 : lowN (y1 >>> ((nI 6) &&& 31)) 9000000 < 9000000 := lowN_lt _ (by omega)
        refine lv_istore (lv' := [(27, .int (nI (lowN (y1 >>> ((nI 6) &&& 31)) 9000000))), (0, .ref b), (1, .ref (ad 0 0)), (2, .ref (ar 0)), (3, .ref (ar 1)), (4, .ref (ar 2)), (5, .ref (ar 3)), (6, .ref (ar 4)), (7, .ref (ar 5)), (8, .ref (ar 6)), (9, .ref (ar 8)), (10, .ref (ar 7)), (11, .ref (ar 9)), (12, .long q12), (14, .int (nI n14)), (15, .int (nI n15)), (16, .int (nI n16)), (17, .int (nI n17)), (18, .int (nI n18)), (19, .int (nI n19)), (21, .int y1), (26, .int (nI (lowN y1 n15)))]) hx hb dL_law_1008 hl (by decide) rfl (fun ls hl => ?_)
        refine lv_aload_n hx hb dL_law_1010 rfl (lv_at hl 2 rfl) ?_
        refine lv_iload hx hb dL_law_1011 (lv_at hl 21 rfl) ?_
        refine lv_iload hx hb dL_law_1013 (lv_at hl 0 rfl) ?_
        cases e1015 : (fX7_estimate τ (nI (lowN y1 n15)) (nI (lowN (y1 >>> ((nI 6) &&& 31)) 9000000))) with
        | inl En => rw [e1015] at hG; exact absurd (show (none : Option ST) = some st from hG) (fun z => nomatch z)
        | inr x1015 =>
          rw [e1015] at hG
          have hG : (if x1015.1 = (nI (lK σ 3 (6 * (lowN y1 n15) + 3))) then (some ((lSK σ 3 (6 * (lowN y1 n15) + 3) (lowN (y1 >>> ((nI 6) &&& 31)) 9000000)), x1015.2, q12, n14, n15, n16, n17)) else none) = some st := hG
          refine xcvN (As := [.int (nI (lowN y1 n15)), .int (nI (lowN (y1 >>> ((nI 6) &&& 31)) 9000000))]) (rest := []) ⟨hx, hb, hml, hown, hts⟩ (mX7_estimate l s.heap.size D E h hlst (lPr ar) τ ad fa hR hC (nI (lowN y1 n15)) (nI (lowN (y1 >>> ((nI 6) &&& 31)) 9000000))) (cwV 2 hts gL_law_X7_estimate rfl rfl rfl (by decide +kernel) ⟨Nat.le_of_ble_eq_true rfl, Nat.le_of_ble_eq_true rfl⟩) I hS hR.f0 rfl rfl hl.1 rfl (Nat.le_of_ble_eq_true rfl) dL_law_1015 ⟨show cells + 3 ≤ 600086 by omega, show slots + 18 ≤ 7301442 by omega⟩ (fun En q => by rw [e1015] at q; cases q) (fun v9 hw H locs q9 I hS => ?_)
          obtain ⟨y9, e9, q1, hR, hF, hC⟩ := q9
          have e9 := Sum.inr.inj (e1015.symm.trans e9)
          subst e9
          subst q1
          have hL := hL.keep hF
          refine W.eq (g2 := F0 m 1018 ls [.int x1015.1]) rfl ?_
          refine lv_aload hx hb dL_law_1018 (lv_at hl 6 rfl) ?_
          refine lv_bipush (v := (nI 6)) hx hb dL_law_1020 (by decide) ?_
          refine lv_iload hx hb dL_law_1022 (lv_at hl 21 rfl) ?_
          refine lv_imul hx hb dL_law_1024 ?_
          refine xtop (y := .int (nI (6 * (lowN y1 n15)))) (congrArg Value.int (pk_mul _ _)) ?_
          refine lv_iconst (v := (nI 3)) hx hb dL_law_1025 (by decide) ?_
          refine lv_iadd hx hb dL_law_1026 ?_
          refine xtop (y := .int (nI (6 * (lowN y1 n15) + 3))) (congrArg Value.int (nI_add _ _)) ?_
          refine xiald (i := (6 * (lowN y1 n15) + 3)) (n := 64) hx hb I (hL.1 3 64 (by decide)) (by omega) (by decide) dL_law_1027 ?_
          have g1027 : lK σ 3 (6 * (lowN y1 n15) + 3) < 1073741824 := hW.2.2.2.2.2.1 3 (6 * (lowN y1 n15) + 3)
          refine lv_icmp_eq (tgt := 1033) hx hb dL_law_1028 (by decide) (fun c_1028 => ?_) (fun c_1028 => ?_)
          · skip
            rw [if_pos c_1028] at hG
            refine lv_aload hx hb dL_law_1033 (lv_at hl 6 rfl) ?_
            refine lv_bipush (v := (nI 6)) hx hb dL_law_1035 (by decide) ?_
            refine lv_iload hx hb dL_law_1037 (lv_at hl 21 rfl) ?_
            refine lv_imul hx hb dL_law_1039 ?_
            refine xtop (y := .int (nI (6 * (lowN y1 n15)))) (congrArg Value.int (pk_mul _ _)) ?_
            refine lv_iconst (v := (nI 3)) hx hb dL_law_1040 (by decide) ?_
            refine lv_iadd hx hb dL_law_1041 ?_
            refine xtop (y := .int (nI (6 * (lowN y1 n15) + 3))) (congrArg Value.int (nI_add _ _)) ?_
            refine lv_iload hx hb dL_law_1042 (lv_at hl 0 rfl) ?_
            refine xkS (x := (lowN (y1 >>> ((nI 6) &&& 31)) 9000000)) (i := (6 * (lowN y1 n15) + 3)) (n := 64) 3 hx hb I hS hL hR (by decide) (by omega) (by decide) dL_law_1044 (fun H locs hw I hL hR hS => ?_)
            have hW : LW (lSK σ 3 (6 * (lowN y1 n15) + 3) (lowN (y1 >>> ((nI 6) &&& 31)) 9000000)) := hW.sK 3 (6 * (lowN y1 n15) + 3) (lowN (y1 >>> ((nI 6) &&& 31)) 9000000) (by omega) (by intro z q; first | exact absurd z (by decide) | omega | (obtain ⟨i, hi⟩ := q; omega)) (by intro z q; first | exact absurd z (by decide) | omega | (obtain ⟨i, hi⟩ := q; omega)) (by intro z q; first | exact absurd z (by decide) | omega | (obtain ⟨i, hi⟩ := q; omega)) (by intro z q; first | exact absurd z (by decide) | omega | (obtain ⟨i, hi⟩ := q; omega)) (by intro z q; first | exact absurd z (by decide) | omega | (obtain ⟨i, hi⟩ := q; omega))
            refine lv_goto (tgt := 1105) hx hb dL_law_1045 (by decide) ?_
            refine lv_goto (tgt := 2560) hx hb dL_law_1105 (by decide) ?_
            have hst := Option.some.inj (show some ((lSK σ 3 (6 * (lowN y1 n15) + 3) (lowN (y1 >>> ((nI 6) &&& 31)) 9000000)), x1015.2, q12, n14, n15, n16, n17) = some st from hG)
            subst hst
            exact W.widen (by omega) (by omega) (kk _ _ _ _ _ _ I hL hR hS hW hC (lv_sub hl [1, 2, 3, 4, 5, 6, 7, 8, 9, 10, 11, 12, 13, 14, 15, 16, 17, 18, 19] rfl))
          · skip
            rw [if_neg c_1028] at hG
            refine lv_iconst (v := (nI 0)) hx hb dL_law_1031 (by decide) ?_
            exact absurd (show (none : Option ST) = some st from hG) (fun z => nomatch z)
    refine lv_if_ne (tgt := 986) hx hb dL_law_945 (by decide) (fun c_945 => ?_) (fun c_945 => ?_)
    · skip
      have c_945 : ¬ lowN (y1 >>> ((nI 4) &&& 31)) 3 = 0 := fun q => c_945 ((nI_eq (a := (lowN (y1 >>> ((nI 4) &&& 31)) 3)) (b := 0) (by omega) (by omega)).mpr q)
      rw [if_neg c_945] at hG
      exact B986 hG ls (lv_sub hl [1, 2, 3, 4, 5, 6, 7, 8, 9, 10, 11, 12, 13, 14, 15, 16, 17, 18, 19, 20, 0] rfl)
    · skip
      have c_945 : lowN (y1 >>> ((nI 4) &&& 31)) 3 = 0 := (nI_eq (a := (lowN (y1 >>> ((nI 4) &&& 31)) 3)) (b := 0) (by omega) (by omega)).mp c_945
      rw [if_pos c_945] at hG
      refine lv_aload hx hb dL_law_948 (lv_at hl 6 rfl) ?_
      refine lv_bipush (v := (nI 6)) hx hb dL_law_950 (by decide) ?_
      refine lv_iload hx hb dL_law_952 (lv_at hl 0 rfl) ?_
      refine lv_imul hx hb dL_law_954 ?_
      refine xtop (y := .int (nI (6 * (lowN y1 n15)))) (congrArg Value.int (pk_mul _ _)) ?_
      refine lv_iconst (v := (nI 5)) hx hb dL_law_955 (by decide) ?_
      refine lv_iadd hx hb dL_law_956 ?_
      refine xtop (y := .int (nI (6 * (lowN y1 n15) + 5))) (congrArg Value.int (nI_add _ _)) ?_
      refine xiald (i := (6 * (lowN y1 n15) + 5)) (n := 64) hx hb I (hL.1 3 64 (by decide)) (by omega) (by decide) dL_law_957 ?_
      have g957 : lK σ 3 (6 * (lowN y1 n15) + 5) < 1073741824 := hW.2.2.2.2.2.1 3 (6 * (lowN y1 n15) + 5)
      refine lv_iconst (v := (nI 2)) hx hb dL_law_958 (by decide) ?_
      refine lv_iand hx hb dL_law_959 ?_
      refine xtop (y := .int (nI ((lK σ 3 (6 * (lowN y1 n15) + 5)) &&& 2))) (congrArg Value.int nI_and) ?_
      have h959 : (lK σ 3 (6 * (lowN y1 n15) + 5)) &&& 2 ≤ 2 := Nat.and_le_right
      refine lv_if_ne (tgt := 986) hx hb dL_law_960 (by decide) (fun c_960 => ?_) (fun c_960 => ?_)
      · skip
        have c_960 : ¬ (lK σ 3 (6 * (lowN y1 n15) + 5)) &&& 2 = 0 := fun q => c_960 ((nI_eq (a := ((lK σ 3 (6 * (lowN y1 n15) + 5)) &&& 2)) (b := 0) (by omega) (by omega)).mpr q)
        rw [if_neg c_960] at hG
        exact B986 hG ls (lv_sub hl [1, 2, 3, 4, 5, 6, 7, 8, 9, 10, 11, 12, 13, 14, 15, 16, 17, 18, 19, 20, 0] rfl)
      · skip
        have c_960 : (lK σ 3 (6 * (lowN y1 n15) + 5)) &&& 2 = 0 := (nI_eq (a := ((lK σ 3 (6 * (lowN y1 n15) + 5)) &&& 2)) (b := 0) (by omega) (by omega)).mp c_960
        rw [if_pos c_960] at hG
        refine lv_aload_n hx hb dL_law_963 rfl (lv_at hl 2 rfl) ?_
        refine lv_iload hx hb dL_law_964 (lv_at hl 0 rfl) ?_
        cases e966 : (fX7_broken τ (nI (lowN y1 n15))) with
        | inl En => rw [e966] at hG; exact absurd (show (none : Option ST) = some st from hG) (fun z => nomatch z)
        | inr x966 =>
          rw [e966] at hG
          have hG : (some ((lSK σ 3 (6 * (lowN y1 n15) + 5) ((lK σ 3 (6 * (lowN y1 n15) + 5)) ||| 2)), x966, q12, n14, n15, n16, n17)) = some st := hG
          refine xcvN (As := [.int (nI (lowN y1 n15))]) (rest := []) ⟨hx, hb, hml, hown, hts⟩ (mX7_broken l s.heap.size D E h hlst (lPr ar) τ ad fa hR hC (nI (lowN y1 n15))) (cwV 1 hts gL_law_X7_broken rfl rfl rfl (by decide +kernel) ⟨Nat.le_of_ble_eq_true rfl, Nat.le_of_ble_eq_true rfl⟩) I hS hR.f0 rfl rfl hl.1 rfl (Nat.le_of_ble_eq_true rfl) dL_law_966 ⟨show cells + 3 ≤ 600086 by omega, show slots + 18 ≤ 7301442 by omega⟩ (fun En q => by rw [e966] at q; cases q) (fun v9 hw H locs q9 I hS => ?_)
          obtain ⟨y9, e9, q1, hR, hF, hC⟩ := q9
          have e9 := Sum.inr.inj (e966.symm.trans e9)
          subst e9
          subst q1
          have hL := hL.keep hF
          refine W.eq (g2 := F0 m 969 ls []) rfl ?_
          refine lv_aload hx hb dL_law_969 (lv_at hl 6 rfl) ?_
          refine lv_bipush (v := (nI 6)) hx hb dL_law_971 (by decide) ?_
          refine lv_iload hx hb dL_law_973 (lv_at hl 0 rfl) ?_
          refine lv_imul hx hb dL_law_975 ?_
          refine xtop (y := .int (nI (6 * (lowN y1 n15)))) (congrArg Value.int (pk_mul _ _)) ?_
          refine lv_iconst (v := (nI 5)) hx hb dL_law_976 (by decide) ?_
          refine lv_iadd hx hb dL_law_977 ?_
          refine xtop (y := .int (nI (6 * (lowN y1 n15) + 5))) (congrArg Value.int (nI_add _ _)) ?_
          refine lv_dup2_11 hx hb dL_law_978 rfl rfl ?_
          refine xiald (i := (6 * (lowN y1 n15) + 5)) (n := 64) hx hb I (hL.1 3 64 (by decide)) (by omega) (by decide) dL_law_979 ?_
          have g979 : lK σ 3 (6 * (lowN y1 n15) + 5) < 1073741824 := hW.2.2.2.2.2.1 3 (6 * (lowN y1 n15) + 5)
          refine lv_iconst (v := (nI 2)) hx hb dL_law_980 (by decide) ?_
          refine lv_ior hx hb dL_law_981 ?_
          refine xtop (y := .int (nI ((lK σ 3 (6 * (lowN y1 n15) + 5)) ||| 2))) (congrArg Value.int nI_or) ?_
          have o981 : (lK σ 3 (6 * (lowN y1 n15) + 5)) ||| 2 < 2 ^ 30 := Nat.or_lt_two_pow (by omega) (by decide)
          refine xkS (x := ((lK σ 3 (6 * (lowN y1 n15) + 5)) ||| 2)) (i := (6 * (lowN y1 n15) + 5)) (n := 64) 3 hx hb I hS hL hR (by decide) (by omega) (by decide) dL_law_982 (fun H locs hw I hL hR hS => ?_)
          have hW : LW (lSK σ 3 (6 * (lowN y1 n15) + 5) ((lK σ 3 (6 * (lowN y1 n15) + 5)) ||| 2)) := hW.sK 3 (6 * (lowN y1 n15) + 5) ((lK σ 3 (6 * (lowN y1 n15) + 5)) ||| 2) (by omega) (by intro z q; first | exact absurd z (by decide) | omega | (obtain ⟨i, hi⟩ := q; omega)) (by intro z q; first | exact absurd z (by decide) | omega | (obtain ⟨i, hi⟩ := q; omega)) (by intro z q; first | exact absurd z (by decide) | omega | (obtain ⟨i, hi⟩ := q; omega)) (by intro z q; first | exact absurd z (by decide) | omega | (obtain ⟨i, hi⟩ := q; omega)) (by intro z q; first | exact absurd z (by decide) | omega | (obtain ⟨i, hi⟩ := q; omega))
          refine lv_goto (tgt := 1105) hx hb dL_law_983 (by decide) ?_
          refine lv_goto (tgt := 2560) hx hb dL_law_1105 (by decide) ?_
          have hst := Option.some.inj (show some ((lSK σ 3 (6 * (lowN y1 n15) + 5) ((lK σ 3 (6 * (lowN y1 n15) + 5)) ||| 2)), x966, q12, n14, n15, n16, n17) = some st from hG)
          subst hst
          exact W.widen (by omega) (by omega) (kk _ _ _ _ _ _ I hL hR hS hW hC (lv_sub hl [1, 2, 3, 4, 5, 6, 7, 8, 9, 10, 11, 12, 13, 14, 15, 16, 17, 18, 19] rfl))

def fS1125 (σ : LT) (τ : CT) (q12 : Int64) (n14 : Nat) (n15 : Nat) (n16 : Nat) (n17 : Nat) (y1 : Int32) (w25 : Nat) : Option ST := (lcall none (fX7_rule τ (nI ((6 * (lowN y1 4) + (2 * w25)) / 6)) (nI w25) (lI (lSI (lSI σ 4 (6 * (lowN y1 4) + (2 * w25)) (nI (lowN (y1 >>> ((nI 3) &&& 31)) 5000))) 4 (6 * (lowN y1 4) + (2 * w25) + 1) (nI (lowN (y1 >>> ((nI 11) &&& 31)) 4000000))) 4 (6 * (lowN y1 4) + (2 * w25))) (lI (lSI (lSI σ 4 (6 * (lowN y1 4) + (2 * w25)) (nI (lowN (y1 >>> ((nI 3) &&& 31)) 5000))) 4 (6 * (lowN y1 4) + (2 * w25) + 1) (nI (lowN (y1 >>> ((nI 11) &&& 31)) 4000000))) 4 (6 * (lowN y1 4) + (2 * w25) + 1))) (fun x1193 => (some ((lSI (lSI σ 4 (6 * (lowN y1 4) + (2 * w25)) (nI (lowN (y1 >>> ((nI 3) &&& 31)) 5000))) 4 (6 * (lowN y1 4) + (2 * w25) + 1) (nI (lowN (y1 >>> ((nI 11) &&& 31)) 4000000))), x1193, q12, n14, n15, n16, n17))))
set_option maxHeartbeats 4000000 in
set_option maxRecDepth 100000 in
theorem sS1125 {p : Program} {l : Launch} {e : Env} {s : State} {m : MethodId} {below : List Frame} {meth : Method} {c : Code} {b L : Nat} {xs : Nat → Int32} {Q : State → Prop} {D : va_G} {E : Nat → ClassId} {σ : LT} {τ : CT} {ad : Nat → Nat → Nat} {fa : Nat → Nat → Option Nat} {ar : Nat → Nat} {h : XW} {H : Heap} {locs : List Loc} {cells slots K Ks : Nat}  {q12 : Int64} {n14 n15 n16 n17 n18 n19 : Nat} {y1 : Int32} {w25 : Nat} {st : ST} {ls : Array Slot} (F : LF p l s m c b L xs) (I : XI s.heap.size D E h s H) (hL : RA E σ ar h) (hR : RC E (lPr ar) τ ad fa h) (hS : va_S (xA s.heap.size) s.heap H locs) (hW : LW σ) (hC : CW τ)  (h14 : n14 ≤ 12) (h15 : n15 ≤ 10) (h16 : n16 ≤ 10) (h17 : n17 < 300) (h18 : n18 < 1000) (h19 : n19 < 44) (h25 : w25 < 3) (hc1 : cells + 100 ≤ K) (hc2 : slots + 1000 ≤ Ks) (hK1 : K ≤ 600086) (hK2 : Ks ≤ 7301442) (hl : lv_has ls 39 [(0, .ref b), (1, .ref (ad 0 0)), (2, .ref (ar 0)), (3, .ref (ar 1)), (4, .ref (ar 2)), (5, .ref (ar 3)), (6, .ref (ar 4)), (7, .ref (ar 5)), (8, .ref (ar 6)), (9, .ref (ar 8)), (10, .ref (ar 7)), (11, .ref (ar 9)), (12, .long q12), (14, .int (nI n14)), (15, .int (nI n15)), (16, .int (nI n16)), (17, .int (nI n17)), (18, .int (nI n18)), (19, .int (nI n19)), (21, .int y1), (25, .int (nI w25))]) (kk : lKK p l e s m below meth c b D E ar Q K Ks n18 n19 2560 st) (hG : fS1125 σ τ q12 n14 n15 n16 n17 y1 w25 = some st) : W p l e room_1 s m #[Value.ref b] below meth c H locs cells slots Q (F0 m 1125 ls []) := by
  obtain ⟨hx, hb, hml, hown, hts, hX, hbl, hCa, hlst, hLL⟩ := id F
  have hbA : ¬ xA s.heap.size b := Nat.not_le.mpr hbl
  unfold fS1125 at hG
  refine lv_bipush (v := (nI 6)) hx hb dL_law_1125 (by decide) ?_
  refine lv_iload hx hb dL_law_1127 (lv_at hl 19 rfl) ?_
  refine lv_iconst (v := (nI 4)) hx hb dL_law_1129 (by decide) ?_
  refine xcsR (As := [.int y1, .int (nI 4)]) (rest := [.int (nI 6)]) (v := some (.int (nI (lowN y1 4)))) ⟨hx, hb, hml, hown, hts⟩ (mL_low l s.heap.size D E h y1 4 (by first | assumption | omega) (by first | assumption | omega)) (va_cwS 2 hts gL_law_L_low rfl rfl rfl (by decide +kernel) ⟨Nat.le_of_ble_eq_true rfl, Nat.le_of_ble_eq_true rfl⟩) I rfl hl.1 rfl (Nat.le_of_ble_eq_true rfl) dL_law_1130 ⟨show cells + 0 ≤ 600086 by omega, show slots + 0 ≤ 7301442 by omega⟩ ?_
  refine W.eq (g2 := F0 m 1133 ls [.int (nI (lowN y1 4)), .int (nI 6)]) rfl ?_
  have l1130 : lowN y1 4 < 4 := lowN_lt _ (by omega)
  refine lv_imul hx hb dL_law_1133 ?_
  refine xtop (y := .int (nI (6 * (lowN y1 4)))) (congrArg Value.int (pk_mul _ _)) ?_
  refine lv_iconst (v := (nI 2)) hx hb dL_law_1134 (by decide) ?_
  refine lv_iload hx hb dL_law_1135 (lv_at hl 20 rfl) ?_
  refine lv_imul hx hb dL_law_1137 ?_
  refine xtop (y := .int (nI (2 * w25))) (congrArg Value.int (pk_mul _ _)) ?_
  refine lv_iadd hx hb dL_law_1138 ?_
  refine xtop (y := .int (nI (6 * (lowN y1 4) + (2 * w25)))) (congrArg Value.int (nI_add _ _)) ?_
  refine lv_istore (lv' := [(26, .int (nI (6 * (lowN y1 4) + (2 * w25)))), (0, .ref b), (1, .ref (ad 0 0)), (2, .ref (ar 0)), (3, .ref (ar 1)), (4, .ref (ar 2)), (5, .ref (ar 3)), (6, .ref (ar 4)), (7, .ref (ar 5)), (8, .ref (ar 6)), (9, .ref (ar 8)), (10, .ref (ar 7)), (11, .ref (ar 9)), (12, .long q12), (14, .int (nI n14)), (15, .int (nI n15)), (16, .int (nI n16)), (17, .int (nI n17)), (18, .int (nI n18)), (19, .int (nI n19)), (21, .int y1), (25, .int (nI w25))]) hx hb dL_law_1139 hl (by decide) rfl (fun ls hl => ?_)
  refine lv_aload hx hb dL_law_1141 (lv_at hl 7 rfl) ?_
  refine lv_iload hx hb dL_law_1143 (lv_at hl 0 rfl) ?_
  refine lv_iload hx hb dL_law_1145 (lv_at hl 20 rfl) ?_
  refine lv_iconst (v := (nI 3)) hx hb dL_law_1147 (by decide) ?_
  refine lv_ishr hx hb dL_law_1148 ?_
  refine lv_sipush (v := (nI 5000)) hx hb dL_law_1149 (by decide) ?_
  refine xcsR (As := [.int (y1 >>> ((nI 3) &&& 31)), .int (nI 5000)]) (rest := [.int (nI (6 * (lowN y1 4) + (2 * w25))), .ref (ar 4)]) (v := some (.int (nI (lowN (y1 >>> ((nI 3) &&& 31)) 5000)))) ⟨hx, hb, hml, hown, hts⟩ (mL_low l s.heap.size D E h (y1 >>> ((nI 3) &&& 31)) 5000 (by first | assumption | omega) (by first | assumption | omega)) (va_cwS 2 hts gL_law_L_low rfl rfl rfl (by decide +kernel) ⟨Nat.le_of_ble_eq_true rfl, Nat.le_of_ble_eq_true rfl⟩) I rfl hl.1 rfl (Nat.le_of_ble_eq_true rfl) dL_law_1152 ⟨show cells + 0 ≤ 600086 by omega, show slots + 0 ≤ 7301442 by omega⟩ ?_
  refine W.eq (g2 := F0 m 1155 ls [.int (nI (lowN (y1 >>> ((nI 3) &&& 31)) 5000)), .int (nI (6 * (lowN y1 4) + (2 * w25))), .ref (ar 4)]) rfl ?_
  have l1152 : lowN (y1 >>> ((nI 3) &&& 31)) 5000 < 5000 := lowN_lt _ (by omega)
  refine xiS (x := (nI (lowN (y1 >>> ((nI 3) &&& 31)) 5000))) (i := (6 * (lowN y1 4) + (2 * w25))) (n := 24) 4 hx hb I hS hL hR (by decide) (by omega) (by decide) dL_law_1155 (fun H locs hw I hL hR hS => ?_)
  have hW : LW (lSI σ 4 (6 * (lowN y1 4) + (2 * w25)) (nI (lowN (y1 >>> ((nI 3) &&& 31)) 5000))) := hW.sI 4 (6 * (lowN y1 4) + (2 * w25)) (nI (lowN (y1 >>> ((nI 3) &&& 31)) 5000)) (by omega)
  refine lv_aload hx hb dL_law_1156 (lv_at hl 7 rfl) ?_
  refine lv_iload hx hb dL_law_1158 (lv_at hl 0 rfl) ?_
  refine lv_iconst (v := (nI 1)) hx hb dL_law_1160 (by decide) ?_
  refine lv_iadd hx hb dL_law_1161 ?_
  refine xtop (y := .int (nI (6 * (lowN y1 4) + (2 * w25) + 1))) (congrArg Value.int (nI_add _ _)) ?_
  refine lv_iload hx hb dL_law_1162 (lv_at hl 20 rfl) ?_
  refine lv_bipush (v := (nI 11)) hx hb dL_law_1164 (by decide) ?_
  refine lv_ishr hx hb dL_law_1166 ?_
  refine lv_ldc (v := (nI 4000000)) hx hb hown (hts _ (List.mem_of_getElem? (i := 7) rfl)) dL_law_1167 ?_
  refine xcsR (As := [.int (y1 >>> ((nI 11) &&& 31)), .int (nI 4000000)]) (rest := [.int (nI (6 * (lowN y1 4) + (2 * w25) + 1)), .ref (ar 4)]) (v := some (.int (nI (lowN (y1 >>> ((nI 11) &&& 31)) 4000000)))) ⟨hx, hb, hml, hown, hts⟩ (mL_low l s.heap.size D E hw (y1 >>> ((nI 11) &&& 31)) 4000000 (by first | assumption | omega) (by first | assumption | omega)) (va_cwS 2 hts gL_law_L_low rfl rfl rfl (by decide +kernel) ⟨Nat.le_of_ble_eq_true rfl, Nat.le_of_ble_eq_true rfl⟩) I rfl hl.1 rfl (Nat.le_of_ble_eq_true rfl) dL_law_1169 ⟨show cells + 0 ≤ 600086 by omega, show slots + 0 ≤ 7301442 by omega⟩ ?_
  refine W.eq (g2 := F0 m 1172 ls [.int (nI (lowN (y1 >>> ((nI 11) &&& 31)) 4000000)), .int (nI (6 * (lowN y1 4) + (2 * w25) + 1)), .ref (ar 4)]) rfl ?_
  have l1169 : lowN (y1 >>> ((nI 11) &&& 31)) 4000000 < 4000000 := lowN_lt _ (by omega)
  refine xiS (x := (nI (lowN (y1 >>> ((nI 11) &&& 31)) 4000000))) (i := (6 * (lowN y1 4) + (2 * w25) + 1)) (n := 24) 4 hx hb I hS hL hR (by decide) (by omega) (by decide) dL_law_1172 (fun H locs hw I hL hR hS => ?_)
  have hW : LW (lSI (lSI σ 4 (6 * (lowN y1 4) + (2 * w25)) (nI (lowN (y1 >>> ((nI 3) &&& 31)) 5000))) 4 (6 * (lowN y1 4) + (2 * w25) + 1) (nI (lowN (y1 >>> ((nI 11) &&& 31)) 4000000))) := hW.sI 4 (6 * (lowN y1 4) + (2 * w25) + 1) (nI (lowN (y1 >>> ((nI 11) &&& 31)) 4000000)) (by omega)
  refine lv_aload_n hx hb dL_law_1173 rfl (lv_at hl 2 rfl) ?_
  refine lv_iload hx hb dL_law_1174 (lv_at hl 0 rfl) ?_
  refine lv_bipush (v := (nI 6)) hx hb dL_law_1176 (by decide) ?_
  refine lv_idiv hx hb dL_law_1178 (by decide) ?_
  refine xtop (y := .int (nI ((6 * (lowN y1 4) + (2 * w25)) / 6))) (congrArg Value.int (pk_div (by omega) (by decide) (by decide))) ?_
  refine lv_iload hx hb dL_law_1179 (lv_at hl 21 rfl) ?_
  refine lv_aload hx hb dL_law_1181 (lv_at hl 7 rfl) ?_
  refine lv_iload hx hb dL_law_1183 (lv_at hl 0 rfl) ?_
  refine xiald (i := (6 * (lowN y1 4) + (2 * w25))) (n := 24) hx hb I (hL.2.1 4 24 (by decide)) (by omega) (by decide) dL_law_1185 ?_
  refine lv_aload hx hb dL_law_1186 (lv_at hl 7 rfl) ?_
  refine lv_iload hx hb dL_law_1188 (lv_at hl 0 rfl) ?_
  refine lv_iconst (v := (nI 1)) hx hb dL_law_1190 (by decide) ?_
  refine lv_iadd hx hb dL_law_1191 ?_
  refine xtop (y := .int (nI (6 * (lowN y1 4) + (2 * w25) + 1))) (congrArg Value.int (nI_add _ _)) ?_
  refine xiald (i := (6 * (lowN y1 4) + (2 * w25) + 1)) (n := 24) hx hb I (hL.2.1 4 24 (by decide)) (by omega) (by decide) dL_law_1192 ?_
  cases e1193 : (fX7_rule τ (nI ((6 * (lowN y1 4) + (2 * w25)) / 6)) (nI w25) (lI (lSI (lSI σ 4 (6 * (lowN y1 4) + (2 * w25)) (nI (lowN (y1 >>> ((nI 3) &&& 31)) 5000))) 4 (6 * (lowN y1 4) + (2 * w25) + 1) (nI (lowN (y1 >>> ((nI 11) &&& 31)) 4000000))) 4 (6 * (lowN y1 4) + (2 * w25))) (lI (lSI (lSI σ 4 (6 * (lowN y1 4) + (2 * w25)) (nI (lowN (y1 >>> ((nI 3) &&& 31)) 5000))) 4 (6 * (lowN y1 4) + (2 * w25) + 1) (nI (lowN (y1 >>> ((nI 11) &&& 31)) 4000000))) 4 (6 * (lowN y1 4) + (2 * w25) + 1))) with
  | inl En => rw [e1193] at hG; exact absurd (show (none : Option ST) = some st from hG) (fun z => nomatch z)
  | inr x1193 =>
    rw [e1193] at hG
    have hG : (some ((lSI (lSI σ 4 (6 * (lowN y1 4) + (2 * w25)) (nI (lowN (y1 >>> ((nI 3) &&& 31)) 5000))) 4 (6 * (lowN y1 4) + (2 * w25) + 1) (nI (lowN (y1 >>> ((nI 11) &&& 31)) 4000000))), x1193, q12, n14, n15, n16, n17)) = some st := hG
    refine xcvN (As := [.int (nI ((6 * (lowN y1 4) + (2 * w25)) / 6)), .int (nI w25), .int (lI (lSI (lSI σ 4 (6 * (lowN y1 4) + (2 * w25)) (nI (lowN (y1 >>> ((nI 3) &&& 31)) 5000))) 4 (6 * (lowN y1 4) + (2 * w25) + 1) (nI (lowN (y1 >>> ((nI 11) &&& 31)) 4000000))) 4 (6 * (lowN y1 4) + (2 * w25))), .int (lI (lSI (lSI σ 4 (6 * (lowN y1 4) + (2 * w25)) (nI (lowN (y1 >>> ((nI 3) &&& 31)) 5000))) 4 (6 * (lowN y1 4) + (2 * w25) + 1) (nI (lowN (y1 >>> ((nI 11) &&& 31)) 4000000))) 4 (6 * (lowN y1 4) + (2 * w25) + 1))]) (rest := []) ⟨hx, hb, hml, hown, hts⟩ (mX7_rule l s.heap.size D E hw hlst (lPr ar) τ ad fa hR hC (nI ((6 * (lowN y1 4) + (2 * w25)) / 6)) (nI w25) (lI (lSI (lSI σ 4 (6 * (lowN y1 4) + (2 * w25)) (nI (lowN (y1 >>> ((nI 3) &&& 31)) 5000))) 4 (6 * (lowN y1 4) + (2 * w25) + 1) (nI (lowN (y1 >>> ((nI 11) &&& 31)) 4000000))) 4 (6 * (lowN y1 4) + (2 * w25))) (lI (lSI (lSI σ 4 (6 * (lowN y1 4) + (2 * w25)) (nI (lowN (y1 >>> ((nI 3) &&& 31)) 5000))) 4 (6 * (lowN y1 4) + (2 * w25) + 1) (nI (lowN (y1 >>> ((nI 11) &&& 31)) 4000000))) 4 (6 * (lowN y1 4) + (2 * w25) + 1))) (cwV 4 hts gL_law_X7_rule rfl rfl rfl (by decide +kernel) ⟨Nat.le_of_ble_eq_true rfl, Nat.le_of_ble_eq_true rfl⟩) I hS hR.f0 rfl rfl hl.1 rfl (Nat.le_of_ble_eq_true rfl) dL_law_1193 ⟨show cells + 5 ≤ 600086 by omega, show slots + 30 ≤ 7301442 by omega⟩ (fun En q => by rw [e1193] at q; cases q) (fun v9 hw H locs q9 I hS => ?_)
    obtain ⟨y9, e9, q1, hR, hF, hC⟩ := q9
    have e9 := Sum.inr.inj (e1193.symm.trans e9)
    subst e9
    subst q1
    have hL := hL.keep hF
    refine W.eq (g2 := F0 m 1196 ls []) rfl ?_
    refine lv_goto (tgt := 2560) hx hb dL_law_1196 (by decide) ?_
    have hst := Option.some.inj (show some ((lSI (lSI σ 4 (6 * (lowN y1 4) + (2 * w25)) (nI (lowN (y1 >>> ((nI 3) &&& 31)) 5000))) 4 (6 * (lowN y1 4) + (2 * w25) + 1) (nI (lowN (y1 >>> ((nI 11) &&& 31)) 4000000))), x1193, q12, n14, n15, n16, n17) = some st from hG)
    subst hst
    exact W.widen (by omega) (by omega) (kk _ _ _ _ _ _ I hL hR hS hW hC (lv_sub hl [1, 2, 3, 4, 5, 6, 7, 8, 9, 10, 11, 12, 13, 14, 15, 16, 17, 18, 19] rfl))

def fS1216 (σ : LT) (τ : CT) (q12 : Int64) (n14 : Nat) (n15 : Nat) (n16 : Nat) (n17 : Nat) (y1 : Int32) (w25 : Nat) : Option ST := (lcall none (fX7_pool τ (nI w25) (lI (lSI (lSI (lSI σ 5 (3 * w25) (nI (lowN y1 100000))) 5 (3 * w25 + 1) ((lI (lSI σ 5 (3 * w25) (nI (lowN y1 100000))) 5 (3 * w25)) + (nI (lowN (y1 >>> ((nI 9) &&& 31)) 900000)))) 5 (3 * w25 + 2) (nI (lowN (y1 >>> ((nI 4) &&& 31)) 101))) 5 (3 * w25)) (lI (lSI (lSI (lSI σ 5 (3 * w25) (nI (lowN y1 100000))) 5 (3 * w25 + 1) ((lI (lSI σ 5 (3 * w25) (nI (lowN y1 100000))) 5 (3 * w25)) + (nI (lowN (y1 >>> ((nI 9) &&& 31)) 900000)))) 5 (3 * w25 + 2) (nI (lowN (y1 >>> ((nI 4) &&& 31)) 101))) 5 (3 * w25 + 1)) (lI (lSI (lSI (lSI σ 5 (3 * w25) (nI (lowN y1 100000))) 5 (3 * w25 + 1) ((lI (lSI σ 5 (3 * w25) (nI (lowN y1 100000))) 5 (3 * w25)) + (nI (lowN (y1 >>> ((nI 9) &&& 31)) 900000)))) 5 (3 * w25 + 2) (nI (lowN (y1 >>> ((nI 4) &&& 31)) 101))) 5 (3 * w25 + 2))) (fun x1303 => (some ((lSI (lSI (lSI σ 5 (3 * w25) (nI (lowN y1 100000))) 5 (3 * w25 + 1) ((lI (lSI σ 5 (3 * w25) (nI (lowN y1 100000))) 5 (3 * w25)) + (nI (lowN (y1 >>> ((nI 9) &&& 31)) 900000)))) 5 (3 * w25 + 2) (nI (lowN (y1 >>> ((nI 4) &&& 31)) 101))), x1303, q12, n14, n15, n16, n17))))
set_option maxHeartbeats 4000000 in
set_option maxRecDepth 100000 in
theorem sS1216 {p : Program} {l : Launch} {e : Env} {s : State} {m : MethodId} {below : List Frame} {meth : Method} {c : Code} {b L : Nat} {xs : Nat → Int32} {Q : State → Prop} {D : va_G} {E : Nat → ClassId} {σ : LT} {τ : CT} {ad : Nat → Nat → Nat} {fa : Nat → Nat → Option Nat} {ar : Nat → Nat} {h : XW} {H : Heap} {locs : List Loc} {cells slots K Ks : Nat}  {q12 : Int64} {n14 n15 n16 n17 n18 n19 : Nat} {y1 : Int32} {w25 : Nat} {st : ST} {ls : Array Slot} (F : LF p l s m c b L xs) (I : XI s.heap.size D E h s H) (hL : RA E σ ar h) (hR : RC E (lPr ar) τ ad fa h) (hS : va_S (xA s.heap.size) s.heap H locs) (hW : LW σ) (hC : CW τ)  (h14 : n14 ≤ 12) (h15 : n15 ≤ 10) (h16 : n16 ≤ 10) (h17 : n17 < 300) (h18 : n18 < 1000) (h19 : n19 < 44) (h25 : w25 < 3) (hc1 : cells + 100 ≤ K) (hc2 : slots + 1000 ≤ Ks) (hK1 : K ≤ 600086) (hK2 : Ks ≤ 7301442) (hl : lv_has ls 39 [(0, .ref b), (1, .ref (ad 0 0)), (2, .ref (ar 0)), (3, .ref (ar 1)), (4, .ref (ar 2)), (5, .ref (ar 3)), (6, .ref (ar 4)), (7, .ref (ar 5)), (8, .ref (ar 6)), (9, .ref (ar 8)), (10, .ref (ar 7)), (11, .ref (ar 9)), (12, .long q12), (14, .int (nI n14)), (15, .int (nI n15)), (16, .int (nI n16)), (17, .int (nI n17)), (18, .int (nI n18)), (19, .int (nI n19)), (21, .int y1), (25, .int (nI w25))]) (kk : lKK p l e s m below meth c b D E ar Q K Ks n18 n19 2560 st) (hG : fS1216 σ τ q12 n14 n15 n16 n17 y1 w25 = some st) : W p l e room_1 s m #[Value.ref b] below meth c H locs cells slots Q (F0 m 1216 ls []) := by
  obtain ⟨hx, hb, hml, hown, hts, hX, hbl, hCa, hlst, hLL⟩ := id F
  have hbA : ¬ xA s.heap.size b := Nat.not_le.mpr hbl
  unfold fS1216 at hG
  refine lv_aload hx hb dL_law_1216 (lv_at hl 7 rfl) ?_
  refine lv_iconst (v := (nI 3)) hx hb dL_law_1218 (by decide) ?_
  refine lv_iload hx hb dL_law_1219 (lv_at hl 20 rfl) ?_
  refine lv_imul hx hb dL_law_1221 ?_
  refine xtop (y := .int (nI (3 * w25))) (congrArg Value.int (pk_mul _ _)) ?_
  refine lv_iload hx hb dL_law_1222 (lv_at hl 19 rfl) ?_
  refine lv_ldc (v := (nI 100000)) hx hb hown (hts _ (List.mem_of_getElem? (i := 8) rfl)) dL_law_1224 ?_
  refine xcsR (As := [.int y1, .int (nI 100000)]) (rest := [.int (nI (3 * w25)), .ref (ar 5)]) (v := some (.int (nI (lowN y1 100000)))) ⟨hx, hb, hml, hown, hts⟩ (mL_low l s.heap.size D E h y1 100000 (by first | assumption | omega) (by first | assumption | omega)) (va_cwS 2 hts gL_law_L_low rfl rfl rfl (by decide +kernel) ⟨Nat.le_of_ble_eq_true rfl, Nat.le_of_ble_eq_true rfl⟩) I rfl hl.1 rfl (Nat.le_of_ble_eq_true rfl) dL_law_1226 ⟨show cells + 0 ≤ 600086 by omega, show slots + 0 ≤ 7301442 by omega⟩ ?_
  refine W.eq (g2 := F0 m 1229 ls [.int (nI (lowN y1 100000)), .int (nI (3 * w25)), .ref (ar 5)]) rfl ?_
  have l1226 : lowN y1 100000 < 100000 := lowN_lt _ (by omega)
  refine xiS (x := (nI (lowN y1 100000))) (i := (3 * w25)) (n := 9) 5 hx hb I hS hL hR (by decide) (by omega) (by decide) dL_law_1229 (fun H locs hw I hL hR hS => ?_)
  have hW : LW (lSI σ 5 (3 * w25) (nI (lowN y1 100000))) := hW.sI 5 (3 * w25) (nI (lowN y1 100000)) (by omega)
  refine lv_aload hx hb dL_law_1230 (lv_at hl 7 rfl) ?_
  refine lv_iconst (v := (nI 3)) hx hb dL_law_1232 (by decide) ?_
  refine lv_iload hx hb dL_law_1233 (lv_at hl 20 rfl) ?_
  refine lv_imul hx hb dL_law_1235 ?_
  refine xtop (y := .int (nI (3 * w25))) (congrArg Value.int (pk_mul _ _)) ?_
  refine lv_iconst (v := (nI 1)) hx hb dL_law_1236 (by decide) ?_
  refine lv_iadd hx hb dL_law_1237 ?_
  refine xtop (y := .int (nI (3 * w25 + 1))) (congrArg Value.int (nI_add _ _)) ?_
  refine lv_aload hx hb dL_law_1238 (lv_at hl 7 rfl) ?_
  refine lv_iconst (v := (nI 3)) hx hb dL_law_1240 (by decide) ?_
  refine lv_iload hx hb dL_law_1241 (lv_at hl 20 rfl) ?_
  refine lv_imul hx hb dL_law_1243 ?_
  refine xtop (y := .int (nI (3 * w25))) (congrArg Value.int (pk_mul _ _)) ?_
  refine xiald (i := (3 * w25)) (n := 9) hx hb I (hL.2.1 5 9 (by decide)) (by omega) (by decide) dL_law_1244 ?_
  refine lv_iload hx hb dL_law_1245 (lv_at hl 19 rfl) ?_
  refine lv_bipush (v := (nI 9)) hx hb dL_law_1247 (by decide) ?_
  refine lv_ishr hx hb dL_law_1249 ?_
  refine lv_ldc (v := (nI 900000)) hx hb hown (hts _ (List.mem_of_getElem? (i := 9) rfl)) dL_law_1250 ?_
  refine xcsR (As := [.int (y1 >>> ((nI 9) &&& 31)), .int (nI 900000)]) (rest := [.int (lI (lSI σ 5 (3 * w25) (nI (lowN y1 100000))) 5 (3 * w25)), .int (nI (3 * w25 + 1)), .ref (ar 5)]) (v := some (.int (nI (lowN (y1 >>> ((nI 9) &&& 31)) 900000)))) ⟨hx, hb, hml, hown, hts⟩ (mL_low l s.heap.size D E hw (y1 >>> ((nI 9) &&& 31)) 900000 (by first | assumption | omega) (by first | assumption | omega)) (va_cwS 2 hts gL_law_L_low rfl rfl rfl (by decide +kernel) ⟨Nat.le_of_ble_eq_true rfl, Nat.le_of_ble_eq_true rfl⟩) I rfl hl.1 rfl (Nat.le_of_ble_eq_true rfl) dL_law_1252 ⟨show cells + 0 ≤ 600086 by omega, show slots + 0 ≤ 7301442 by omega⟩ ?_
  refine W.eq (g2 := F0 m 1255 ls [.int (nI (lowN (y1 >>> ((nI 9) &&& 31)) 900000)), .int (lI (lSI σ 5 (3 * w25) (nI (lowN y1 100000))) 5 (3 * w25)), .int (nI (3 * w25 + 1)), .ref (ar 5)]) rfl ?_
  have l1252 : lowN (y1 >>> ((nI 9) &&& 31)) 900000 < 900000 := lowN_lt _ (by omega)
  refine lv_iadd hx hb dL_law_1255 ?_
  refine xiS (x := ((lI (lSI σ 5 (3 * w25) (nI (lowN y1 100000))) 5 (3 * w25)) + (nI (lowN (y1 >>> ((nI 9) &&& 31)) 900000)))) (i := (3 * w25 + 1)) (n := 9) 5 hx hb I hS hL hR (by decide) (by omega) (by decide) dL_law_1256 (fun H locs hw I hL hR hS => ?_)
  have hW : LW (lSI (lSI σ 5 (3 * w25) (nI (lowN y1 100000))) 5 (3 * w25 + 1) ((lI (lSI σ 5 (3 * w25) (nI (lowN y1 100000))) 5 (3 * w25)) + (nI (lowN (y1 >>> ((nI 9) &&& 31)) 900000)))) := hW.sI 5 (3 * w25 + 1) ((lI (lSI σ 5 (3 * w25) (nI (lowN y1 100000))) 5 (3 * w25)) + (nI (lowN (y1 >>> ((nI 9) &&& 31)) 900000))) (by omega)
  refine lv_aload hx hb dL_law_1257 (lv_at hl 7 rfl) ?_
  refine lv_iconst (v := (nI 3)) hx hb dL_law_1259 (by decide) ?_
  refine lv_iload hx hb dL_law_1260 (lv_at hl 20 rfl) ?_
  refine lv_imul hx hb dL_law_1262 ?_
  refine xtop (y := .int (nI (3 * w25))) (congrArg Value.int (pk_mul _ _)) ?_
  refine lv_iconst (v := (nI 2)) hx hb dL_law_1263 (by decide) ?_
  refine lv_iadd hx hb dL_law_1264 ?_
  refine xtop (y := .int (nI (3 * w25 + 2))) (congrArg Value.int (nI_add _ _)) ?_
  refine lv_iload hx hb dL_law_1265 (lv_at hl 19 rfl) ?_
  refine lv_iconst (v := (nI 4)) hx hb dL_law_1267 (by decide) ?_
  refine lv_ishr hx hb dL_law_1268 ?_
  refine lv_bipush (v := (nI 101)) hx hb dL_law_1269 (by decide) ?_
  refine xcsR (As := [.int (y1 >>> ((nI 4) &&& 31)), .int (nI 101)]) (rest := [.int (nI (3 * w25 + 2)), .ref (ar 5)]) (v := some (.int (nI (lowN (y1 >>> ((nI 4) &&& 31)) 101)))) ⟨hx, hb, hml, hown, hts⟩ (mL_low l s.heap.size D E hw (y1 >>> ((nI 4) &&& 31)) 101 (by first | assumption | omega) (by first | assumption | omega)) (va_cwS 2 hts gL_law_L_low rfl rfl rfl (by decide +kernel) ⟨Nat.le_of_ble_eq_true rfl, Nat.le_of_ble_eq_true rfl⟩) I rfl hl.1 rfl (Nat.le_of_ble_eq_true rfl) dL_law_1271 ⟨show cells + 0 ≤ 600086 by omega, show slots + 0 ≤ 7301442 by omega⟩ ?_
  refine W.eq (g2 := F0 m 1274 ls [.int (nI (lowN (y1 >>> ((nI 4) &&& 31)) 101)), .int (nI (3 * w25 + 2)), .ref (ar 5)]) rfl ?_
  have l1271 : lowN (y1 >>> ((nI 4) &&& 31)) 101 < 101 := lowN_lt _ (by omega)
  refine xiS (x := (nI (lowN (y1 >>> ((nI 4) &&& 31)) 101))) (i := (3 * w25 + 2)) (n := 9) 5 hx hb I hS hL hR (by decide) (by omega) (by decide) dL_law_1274 (fun H locs hw I hL hR hS => ?_)
  have hW : LW (lSI (lSI (lSI σ 5 (3 * w25) (nI (lowN y1 100000))) 5 (3 * w25 + 1) ((lI (lSI σ 5 (3 * w25) (nI (lowN y1 100000))) 5 (3 * w25)) + (nI (lowN (y1 >>> ((nI 9) &&& 31)) 900000)))) 5 (3 * w25 + 2) (nI (lowN (y1 >>> ((nI 4) &&& 31)) 101))) := hW.sI 5 (3 * w25 + 2) (nI (lowN (y1 >>> ((nI 4) &&& 31)) 101)) (by omega)
  refine lv_aload_n hx hb dL_law_1275 rfl (lv_at hl 1 rfl) ?_
  refine lv_iload hx hb dL_law_1276 (lv_at hl 20 rfl) ?_
  refine lv_aload hx hb dL_law_1278 (lv_at hl 7 rfl) ?_
  refine lv_iconst (v := (nI 3)) hx hb dL_law_1280 (by decide) ?_
  refine lv_iload hx hb dL_law_1281 (lv_at hl 20 rfl) ?_
  refine lv_imul hx hb dL_law_1283 ?_
  refine xtop (y := .int (nI (3 * w25))) (congrArg Value.int (pk_mul _ _)) ?_
  refine xiald (i := (3 * w25)) (n := 9) hx hb I (hL.2.1 5 9 (by decide)) (by omega) (by decide) dL_law_1284 ?_
  refine lv_aload hx hb dL_law_1285 (lv_at hl 7 rfl) ?_
  refine lv_iconst (v := (nI 3)) hx hb dL_law_1287 (by decide) ?_
  refine lv_iload hx hb dL_law_1288 (lv_at hl 20 rfl) ?_
  refine lv_imul hx hb dL_law_1290 ?_
  refine xtop (y := .int (nI (3 * w25))) (congrArg Value.int (pk_mul _ _)) ?_
  refine lv_iconst (v := (nI 1)) hx hb dL_law_1291 (by decide) ?_
  refine lv_iadd hx hb dL_law_1292 ?_
  refine xtop (y := .int (nI (3 * w25 + 1))) (congrArg Value.int (nI_add _ _)) ?_
  refine xiald (i := (3 * w25 + 1)) (n := 9) hx hb I (hL.2.1 5 9 (by decide)) (by omega) (by decide) dL_law_1293 ?_
  refine lv_aload hx hb dL_law_1294 (lv_at hl 7 rfl) ?_
  refine lv_iconst (v := (nI 3)) hx hb dL_law_1296 (by decide) ?_
  refine lv_iload hx hb dL_law_1297 (lv_at hl 20 rfl) ?_
  refine lv_imul hx hb dL_law_1299 ?_
  refine xtop (y := .int (nI (3 * w25))) (congrArg Value.int (pk_mul _ _)) ?_
  refine lv_iconst (v := (nI 2)) hx hb dL_law_1300 (by decide) ?_
  refine lv_iadd hx hb dL_law_1301 ?_
  refine xtop (y := .int (nI (3 * w25 + 2))) (congrArg Value.int (nI_add _ _)) ?_
  refine xiald (i := (3 * w25 + 2)) (n := 9) hx hb I (hL.2.1 5 9 (by decide)) (by omega) (by decide) dL_law_1302 ?_
  cases e1303 : (fX7_pool τ (nI w25) (lI (lSI (lSI (lSI σ 5 (3 * w25) (nI (lowN y1 100000))) 5 (3 * w25 + 1) ((lI (lSI σ 5 (3 * w25) (nI (lowN y1 100000))) 5 (3 * w25)) + (nI (lowN (y1 >>> ((nI 9) &&& 31)) 900000)))) 5 (3 * w25 + 2) (nI (lowN (y1 >>> ((nI 4) &&& 31)) 101))) 5 (3 * w25)) (lI (lSI (lSI (lSI σ 5 (3 * w25) (nI (lowN y1 100000))) 5 (3 * w25 + 1) ((lI (lSI σ 5 (3 * w25) (nI (lowN y1 100000))) 5 (3 * w25)) + (nI (lowN (y1 >>> ((nI 9) &&& 31)) 900000)))) 5 (3 * w25 + 2) (nI (lowN (y1 >>> ((nI 4) &&& 31)) 101))) 5 (3 * w25 + 1)) (lI (lSI (lSI (lSI σ 5 (3 * w25) (nI (lowN y1 100000))) 5 (3 * w25 + 1) ((lI (lSI σ 5 (3 * w25) (nI (lowN y1 100000))) 5 (3 * w25)) + (nI (lowN (y1 >>> ((nI 9) &&& 31)) 900000)))) 5 (3 * w25 + 2) (nI (lowN (y1 >>> ((nI 4) &&& 31)) 101))) 5 (3 * w25 + 2))) with
  | inl En => rw [e1303] at hG; exact absurd (show (none : Option ST) = some st from hG) (fun z => nomatch z)
  | inr x1303 =>
    rw [e1303] at hG
    have hG : (some ((lSI (lSI (lSI σ 5 (3 * w25) (nI (lowN y1 100000))) 5 (3 * w25 + 1) ((lI (lSI σ 5 (3 * w25) (nI (lowN y1 100000))) 5 (3 * w25)) + (nI (lowN (y1 >>> ((nI 9) &&& 31)) 900000)))) 5 (3 * w25 + 2) (nI (lowN (y1 >>> ((nI 4) &&& 31)) 101))), x1303, q12, n14, n15, n16, n17)) = some st := hG
    refine xcvN (As := [.int (nI w25), .int (lI (lSI (lSI (lSI σ 5 (3 * w25) (nI (lowN y1 100000))) 5 (3 * w25 + 1) ((lI (lSI σ 5 (3 * w25) (nI (lowN y1 100000))) 5 (3 * w25)) + (nI (lowN (y1 >>> ((nI 9) &&& 31)) 900000)))) 5 (3 * w25 + 2) (nI (lowN (y1 >>> ((nI 4) &&& 31)) 101))) 5 (3 * w25)), .int (lI (lSI (lSI (lSI σ 5 (3 * w25) (nI (lowN y1 100000))) 5 (3 * w25 + 1) ((lI (lSI σ 5 (3 * w25) (nI (lowN y1 100000))) 5 (3 * w25)) + (nI (lowN (y1 >>> ((nI 9) &&& 31)) 900000)))) 5 (3 * w25 + 2) (nI (lowN (y1 >>> ((nI 4) &&& 31)) 101))) 5 (3 * w25 + 1)), .int (lI (lSI (lSI (lSI σ 5 (3 * w25) (nI (lowN y1 100000))) 5 (3 * w25 + 1) ((lI (lSI σ 5 (3 * w25) (nI (lowN y1 100000))) 5 (3 * w25)) + (nI (lowN (y1 >>> ((nI 9) &&& 31)) 900000)))) 5 (3 * w25 + 2) (nI (lowN (y1 >>> ((nI 4) &&& 31)) 101))) 5 (3 * w25 + 2))]) (rest := []) ⟨hx, hb, hml, hown, hts⟩ (mX7_pool l s.heap.size D E hw hlst (lPr ar) τ ad fa hR hC (nI w25) (lI (lSI (lSI (lSI σ 5 (3 * w25) (nI (lowN y1 100000))) 5 (3 * w25 + 1) ((lI (lSI σ 5 (3 * w25) (nI (lowN y1 100000))) 5 (3 * w25)) + (nI (lowN (y1 >>> ((nI 9) &&& 31)) 900000)))) 5 (3 * w25 + 2) (nI (lowN (y1 >>> ((nI 4) &&& 31)) 101))) 5 (3 * w25)) (lI (lSI (lSI (lSI σ 5 (3 * w25) (nI (lowN y1 100000))) 5 (3 * w25 + 1) ((lI (lSI σ 5 (3 * w25) (nI (lowN y1 100000))) 5 (3 * w25)) + (nI (lowN (y1 >>> ((nI 9) &&& 31)) 900000)))) 5 (3 * w25 + 2) (nI (lowN (y1 >>> ((nI 4) &&& 31)) 101))) 5 (3 * w25 + 1)) (lI (lSI (lSI (lSI σ 5 (3 * w25) (nI (lowN y1 100000))) 5 (3 * w25 + 1) ((lI (lSI σ 5 (3 * w25) (nI (lowN y1 100000))) 5 (3 * w25)) + (nI (lowN (y1 >>> ((nI 9) &&& 31)) 900000)))) 5 (3 * w25 + 2) (nI (lowN (y1 >>> ((nI 4) &&& 31)) 101))) 5 (3 * w25 + 2))) (cwV 4 hts gL_law_X7_pool rfl rfl rfl (by decide +kernel) ⟨Nat.le_of_ble_eq_true rfl, Nat.le_of_ble_eq_true rfl⟩) I hS hR.f0 rfl rfl hl.1 rfl (Nat.le_of_ble_eq_true rfl) dL_law_1303 ⟨show cells + 5 ≤ 600086 by omega, show slots + 30 ≤ 7301442 by omega⟩ (fun En q => by rw [e1303] at q; cases q) (fun v9 hw H locs q9 I hS => ?_)
    obtain ⟨y9, e9, q1, hR, hF, hC⟩ := q9
    have e9 := Sum.inr.inj (e1303.symm.trans e9)
    subst e9
    subst q1
    have hL := hL.keep hF
    refine W.eq (g2 := F0 m 1306 ls []) rfl ?_
    refine lv_goto (tgt := 2560) hx hb dL_law_1306 (by decide) ?_
    have hst := Option.some.inj (show some ((lSI (lSI (lSI σ 5 (3 * w25) (nI (lowN y1 100000))) 5 (3 * w25 + 1) ((lI (lSI σ 5 (3 * w25) (nI (lowN y1 100000))) 5 (3 * w25)) + (nI (lowN (y1 >>> ((nI 9) &&& 31)) 900000)))) 5 (3 * w25 + 2) (nI (lowN (y1 >>> ((nI 4) &&& 31)) 101))), x1303, q12, n14, n15, n16, n17) = some st from hG)
    subst hst
    exact W.widen (by omega) (by omega) (kk _ _ _ _ _ _ I hL hR hS hW hC (lv_sub hl [0, 1, 2, 3, 4, 5, 6, 7, 8, 9, 10, 11, 12, 13, 14, 15, 16, 17, 18] rfl))

def fS1463 (σ : LT) (τ : CT) (q12 : Int64) (n14 : Nat) (n15 : Nat) (n16 : Nat) (n17 : Nat) (w23 : Nat) (y1 : Int32) (w25 : Nat) : Option ST := (if (lI σ 7 (3 * w23 + w25)) = (nI 1) then (some (σ, τ, q12, n14, n15, n16, n17)) else (lcall none (fX7_rate τ (nI w23) (nI w25) (nI (10 + (lowN (y1 >>> ((nI 5) &&& 31)) 200)))) (fun x1499 => (if x1499.1 = (nI (lK σ 2 (3 * w23 + w25))) then (some ((lSK σ 2 (3 * w23 + w25) (10 + (lowN (y1 >>> ((nI 5) &&& 31)) 200))), x1499.2, q12, n14, n15, n16, n17)) else none))))
set_option maxHeartbeats 4000000 in
set_option maxRecDepth 100000 in
theorem sS1463 {p : Program} {l : Launch} {e : Env} {s : State} {m : MethodId} {below : List Frame} {meth : Method} {c : Code} {b L : Nat} {xs : Nat → Int32} {Q : State → Prop} {D : va_G} {E : Nat → ClassId} {σ : LT} {τ : CT} {ad : Nat → Nat → Nat} {fa : Nat → Nat → Option Nat} {ar : Nat → Nat} {h : XW} {H : Heap} {locs : List Loc} {cells slots K Ks : Nat}  {q12 : Int64} {n14 n15 n16 n17 n18 n19 : Nat} {w23 : Nat} {y1 : Int32} {w25 : Nat} {st : ST} {ls : Array Slot} (F : LF p l s m c b L xs) (I : XI s.heap.size D E h s H) (hL : RA E σ ar h) (hR : RC E (lPr ar) τ ad fa h) (hS : va_S (xA s.heap.size) s.heap H locs) (hW : LW σ) (hC : CW τ)  (h14 : n14 ≤ 12) (h15 : n15 ≤ 10) (h16 : n16 ≤ 10) (h17 : n17 < 300) (h18 : n18 < 1000) (h19 : n19 < 44) (h23 : w23 < 3) (h25 : w25 < 3) (hc1 : cells + 100 ≤ K) (hc2 : slots + 1000 ≤ Ks) (hK1 : K ≤ 600086) (hK2 : Ks ≤ 7301442) (hl : lv_has ls 39 [(0, .ref b), (1, .ref (ad 0 0)), (2, .ref (ar 0)), (3, .ref (ar 1)), (4, .ref (ar 2)), (5, .ref (ar 3)), (6, .ref (ar 4)), (7, .ref (ar 5)), (8, .ref (ar 6)), (9, .ref (ar 8)), (10, .ref (ar 7)), (11, .ref (ar 9)), (12, .long q12), (14, .int (nI n14)), (15, .int (nI n15)), (16, .int (nI n16)), (17, .int (nI n17)), (18, .int (nI n18)), (19, .int (nI n19)), (23, .int (nI w23)), (21, .int y1), (25, .int (nI w25))]) (kk : lKK p l e s m below meth c b D E ar Q K Ks n18 n19 2560 st) (hG : fS1463 σ τ q12 n14 n15 n16 n17 w23 y1 w25 = some st) : W p l e room_1 s m #[Value.ref b] below meth c H locs cells slots Q (F0 m 1463 ls []) := by
  obtain ⟨hx, hb, hml, hown, hts, hX, hbl, hCa, hlst, hLL⟩ := id F
  have hbA : ¬ xA s.heap.size b := Nat.not_le.mpr hbl
  unfold fS1463 at hG
  refine lv_aload hx hb dL_law_1463 (lv_at hl 10 rfl) ?_
  refine lv_iconst (v := (nI 3)) hx hb dL_law_1465 (by decide) ?_
  refine lv_iload hx hb dL_law_1466 (lv_at hl 19 rfl) ?_
  refine lv_imul hx hb dL_law_1468 ?_
  refine xtop (y := .int (nI (3 * w23))) (congrArg Value.int (pk_mul _ _)) ?_
  refine lv_iload hx hb dL_law_1469 (lv_at hl 21 rfl) ?_
  refine lv_iadd hx hb dL_law_1471 ?_
  refine xtop (y := .int (nI (3 * w23 + w25))) (congrArg Value.int (nI_add _ _)) ?_
  refine xiald (i := (3 * w23 + w25)) (n := 16) hx hb I (hL.2.1 7 16 (by decide)) (by omega) (by decide) dL_law_1472 ?_
  refine lv_iconst (v := (nI 1)) hx hb dL_law_1473 (by decide) ?_
  refine lv_icmp_eq (tgt := 1529) hx hb dL_law_1474 (by decide) (fun c_1474 => ?_) (fun c_1474 => ?_)
  · skip
    rw [if_pos c_1474] at hG
    refine lv_goto (tgt := 2560) hx hb dL_law_1529 (by decide) ?_
    have hst := Option.some.inj (show some (σ, τ, q12, n14, n15, n16, n17) = some st from hG)
    subst hst
    exact W.widen (by omega) (by omega) (kk _ _ _ _ _ _ I hL hR hS hW hC (lv_sub hl [0, 1, 2, 3, 4, 5, 6, 7, 8, 9, 10, 11, 12, 13, 14, 15, 16, 17, 18] rfl))
  · skip
    rw [if_neg c_1474] at hG
    refine lv_bipush (v := (nI 10)) hx hb dL_law_1477 (by decide) ?_
    refine lv_iload hx hb dL_law_1479 (lv_at hl 20 rfl) ?_
    refine lv_iconst (v := (nI 5)) hx hb dL_law_1481 (by decide) ?_
    refine lv_ishr hx hb dL_law_1482 ?_
    refine lv_sipush (v := (nI 200)) hx hb dL_law_1483 (by decide) ?_
    refine xcsR (As := [.int (y1 >>> ((nI 5) &&& 31)), .int (nI 200)]) (rest := [.int (nI 10)]) (v := some (.int (nI (lowN (y1 >>> ((nI 5) &&& 31)) 200)))) ⟨hx, hb, hml, hown, hts⟩ (mL_low l s.heap.size D E h (y1 >>> ((nI 5) &&& 31)) 200 (by first | assumption | omega) (by first | assumption | omega)) (va_cwS 2 hts gL_law_L_low rfl rfl rfl (by decide +kernel) ⟨Nat.le_of_ble_eq_true rfl, Nat.le_of_ble_eq_true rfl⟩) I rfl hl.1 rfl (Nat.le_of_ble_eq_true rfl) dL_law_1486 ⟨show cells + 0 ≤ 600086 by omega, show slots + 0 ≤ 7301442 by omega⟩ ?_
    refine W.eq (g2 := F0 m 1489 ls [.int (nI (lowN (y1 >>> ((nI 5) &&& 31)) 200)), .int (nI 10)]) rfl ?_
    have l1486 : lowN (y1 >>> ((nI 5) &&& 31)) 200 < 200 := lowN_lt _ (by omega)
    refine lv_iadd hx hb dL_law_1489 ?_
    refine xtop (y := .int (nI (10 + (lowN (y1 >>> ((nI 5) &&& 31)) 200)))) (congrArg Value.int (nI_add _ _)) ?_
    refine lv_istore (lv' := [(28, .int (nI (10 + (lowN (y1 >>> ((nI 5) &&& 31)) 200)))), (0, .ref b), (1, .ref (ad 0 0)), (2, .ref (ar 0)), (3, .ref (ar 1)), (4, .ref (ar 2)), (5, .ref (ar 3)), (6, .ref (ar 4)), (7, .ref (ar 5)), (8, .ref (ar 6)), (9, .ref (ar 8)), (10, .ref (ar 7)), (11, .ref (ar 9)), (12, .long q12), (14, .int (nI n14)), (15, .int (nI n15)), (16, .int (nI n16)), (17, .int (nI n17)), (18, .int (nI n18)), (19, .int (nI n19)), (23, .int (nI w23)), (21, .int y1), (25, .int (nI w25))]) hx hb dL_law_1490 hl (by decide) rfl (fun ls hl => ?_)
    refine lv_aload_n hx hb dL_law_1492 rfl (lv_at hl 2 rfl) ?_
    refine lv_iload hx hb dL_law_1493 (lv_at hl 20 rfl) ?_
    refine lv_iload hx hb dL_law_1495 (lv_at hl 22 rfl) ?_
    refine lv_iload hx hb dL_law_1497 (lv_at hl 0 rfl) ?_
    cases e1499 : (fX7_rate τ (nI w23) (nI w25) (nI (10 + (lowN (y1 >>> ((nI 5) &&& 31)) 200)))) with
    | inl En => rw [e1499] at hG; exact absurd (show (none : Option ST) = some st from hG) (fun z => nomatch z)
    | inr x1499 =>
      rw [e1499] at hG
      have hG : (if x1499.1 = (nI (lK σ 2 (3 * w23 + w25))) then (some ((lSK σ 2 (3 * w23 + w25) (10 + (lowN (y1 >>> ((nI 5) &&& 31)) 200))), x1499.2, q12, n14, n15, n16, n17)) else none) = some st := hG
      refine xcvN (As := [.int (nI w23), .int (nI w25), .int (nI (10 + (lowN (y1 >>> ((nI 5) &&& 31)) 200)))]) (rest := []) ⟨hx, hb, hml, hown, hts⟩ (mX7_rate l s.heap.size D E h hlst (lPr ar) τ ad fa hR hC (nI w23) (nI w25) (nI (10 + (lowN (y1 >>> ((nI 5) &&& 31)) 200)))) (cwV 3 hts gL_law_X7_rate rfl rfl rfl (by decide +kernel) ⟨Nat.le_of_ble_eq_true rfl, Nat.le_of_ble_eq_true rfl⟩) I hS hR.f0 rfl rfl hl.1 rfl (Nat.le_of_ble_eq_true rfl) dL_law_1499 ⟨show cells + 5 ≤ 600086 by omega, show slots + 30 ≤ 7301442 by omega⟩ (fun En q => by rw [e1499] at q; cases q) (fun v9 hw H locs q9 I hS => ?_)
      obtain ⟨y9, e9, q1, hR, hF, hC⟩ := q9
      have e9 := Sum.inr.inj (e1499.symm.trans e9)
      subst e9
      subst q1
      have hL := hL.keep hF
      refine W.eq (g2 := F0 m 1502 ls [.int x1499.1]) rfl ?_
      refine lv_aload hx hb dL_law_1502 (lv_at hl 5 rfl) ?_
      refine lv_iconst (v := (nI 3)) hx hb dL_law_1504 (by decide) ?_
      refine lv_iload hx hb dL_law_1505 (lv_at hl 20 rfl) ?_
      refine lv_imul hx hb dL_law_1507 ?_
      refine xtop (y := .int (nI (3 * w23))) (congrArg Value.int (pk_mul _ _)) ?_
      refine lv_iload hx hb dL_law_1508 (lv_at hl 22 rfl) ?_
      refine lv_iadd hx hb dL_law_1510 ?_
      refine xtop (y := .int (nI (3 * w23 + w25))) (congrArg Value.int (nI_add _ _)) ?_
      refine xiald (i := (3 * w23 + w25)) (n := 9) hx hb I (hL.1 2 9 (by decide)) (by omega) (by decide) dL_law_1511 ?_
      have g1511 : lK σ 2 (3 * w23 + w25) < 1073741824 := hW.2.2.2.2.2.1 2 (3 * w23 + w25)
      refine lv_icmp_eq (tgt := 1517) hx hb dL_law_1512 (by decide) (fun c_1512 => ?_) (fun c_1512 => ?_)
      · skip
        rw [if_pos c_1512] at hG
        refine lv_aload hx hb dL_law_1517 (lv_at hl 5 rfl) ?_
        refine lv_iconst (v := (nI 3)) hx hb dL_law_1519 (by decide) ?_
        refine lv_iload hx hb dL_law_1520 (lv_at hl 20 rfl) ?_
        refine lv_imul hx hb dL_law_1522 ?_
        refine xtop (y := .int (nI (3 * w23))) (congrArg Value.int (pk_mul _ _)) ?_
        refine lv_iload hx hb dL_law_1523 (lv_at hl 22 rfl) ?_
        refine lv_iadd hx hb dL_law_1525 ?_
        refine xtop (y := .int (nI (3 * w23 + w25))) (congrArg Value.int (nI_add _ _)) ?_
        refine lv_iload hx hb dL_law_1526 (lv_at hl 0 rfl) ?_
        refine xkS (x := (10 + (lowN (y1 >>> ((nI 5) &&& 31)) 200))) (i := (3 * w23 + w25)) (n := 9) 2 hx hb I hS hL hR (by decide) (by omega) (by decide) dL_law_1528 (fun H locs hw I hL hR hS => ?_)
        have hW : LW (lSK σ 2 (3 * w23 + w25) (10 + (lowN (y1 >>> ((nI 5) &&& 31)) 200))) := hW.sK 2 (3 * w23 + w25) (10 + (lowN (y1 >>> ((nI 5) &&& 31)) 200)) (by omega) (by intro z q; first | exact absurd z (by decide) | omega | (obtain ⟨i, hi⟩ := q; omega)) (by intro z q; first | exact absurd z (by decide) | omega | (obtain ⟨i, hi⟩ := q; omega)) (by intro z q; first | exact absurd z (by decide) | omega | (obtain ⟨i, hi⟩ := q; omega)) (by intro z q; first | exact absurd z (by decide) | omega | (obtain ⟨i, hi⟩ := q; omega)) (by intro z q; first | exact absurd z (by decide) | omega | (obtain ⟨i, hi⟩ := q; omega))
        refine lv_goto (tgt := 2560) hx hb dL_law_1529 (by decide) ?_
        have hst := Option.some.inj (show some ((lSK σ 2 (3 * w23 + w25) (10 + (lowN (y1 >>> ((nI 5) &&& 31)) 200))), x1499.2, q12, n14, n15, n16, n17) = some st from hG)
        subst hst
        exact W.widen (by omega) (by omega) (kk _ _ _ _ _ _ I hL hR hS hW hC (lv_sub hl [1, 2, 3, 4, 5, 6, 7, 8, 9, 10, 11, 12, 13, 14, 15, 16, 17, 18, 19] rfl))
      · skip
        rw [if_neg c_1512] at hG
        refine lv_iconst (v := (nI 0)) hx hb dL_law_1515 (by decide) ?_
        exact absurd (show (none : Option ST) = some st from hG) (fun z => nomatch z)

def fS1401 (σ : LT) (τ : CT) (q12 : Int64) (n14 : Nat) (n15 : Nat) (n16 : Nat) (n17 : Nat) (w23 : Nat) (y1 : Int32) (w25 : Nat) : Option ST := (if 1000 < lK σ 6 (3 + w25) + (1 + (lowN (y1 >>> ((nI 14) &&& 31)) 80)) then (fS1463 σ τ q12 n14 n15 n16 n17 w23 y1 w25) else (lcall none (fX7_further τ (nI w25) (nI (1 + (lowN (y1 >>> ((nI 14) &&& 31)) 80)))) (fun x1448 => (if x1448.1 = (nI (lK (lSK σ 6 (3 + w25) (lK σ 6 (3 + w25) + (1 + (lowN (y1 >>> ((nI 14) &&& 31)) 80)))) 6 (3 + w25))) then (fS1463 (lSK σ 6 (3 + w25) (lK σ 6 (3 + w25) + (1 + (lowN (y1 >>> ((nI 14) &&& 31)) 80)))) x1448.2 q12 n14 n15 n16 n17 w23 y1 w25) else none))))
set_option maxHeartbeats 4000000 in
set_option maxRecDepth 100000 in
theorem sS1401 {p : Program} {l : Launch} {e : Env} {s : State} {m : MethodId} {below : List Frame} {meth : Method} {c : Code} {b L : Nat} {xs : Nat → Int32} {Q : State → Prop} {D : va_G} {E : Nat → ClassId} {σ : LT} {τ : CT} {ad : Nat → Nat → Nat} {fa : Nat → Nat → Option Nat} {ar : Nat → Nat} {h : XW} {H : Heap} {locs : List Loc} {cells slots K Ks : Nat}  {q12 : Int64} {n14 n15 n16 n17 n18 n19 : Nat} {w23 : Nat} {y1 : Int32} {w25 : Nat} {st : ST} {ls : Array Slot} (F : LF p l s m c b L xs) (I : XI s.heap.size D E h s H) (hL : RA E σ ar h) (hR : RC E (lPr ar) τ ad fa h) (hS : va_S (xA s.heap.size) s.heap H locs) (hW : LW σ) (hC : CW τ)  (h14 : n14 ≤ 12) (h15 : n15 ≤ 10) (h16 : n16 ≤ 10) (h17 : n17 < 300) (h18 : n18 < 1000) (h19 : n19 < 44) (h23 : w23 < 3) (h25 : w25 < 3) (hc1 : cells + 150 ≤ K) (hc2 : slots + 1500 ≤ Ks) (hK1 : K ≤ 600086) (hK2 : Ks ≤ 7301442) (hl : lv_has ls 39 [(0, .ref b), (1, .ref (ad 0 0)), (2, .ref (ar 0)), (3, .ref (ar 1)), (4, .ref (ar 2)), (5, .ref (ar 3)), (6, .ref (ar 4)), (7, .ref (ar 5)), (8, .ref (ar 6)), (9, .ref (ar 8)), (10, .ref (ar 7)), (11, .ref (ar 9)), (12, .long q12), (14, .int (nI n14)), (15, .int (nI n15)), (16, .int (nI n16)), (17, .int (nI n17)), (18, .int (nI n18)), (19, .int (nI n19)), (23, .int (nI w23)), (21, .int y1), (25, .int (nI w25))]) (kk : lKK p l e s m below meth c b D E ar Q K Ks n18 n19 2560 st) (hG : fS1401 σ τ q12 n14 n15 n16 n17 w23 y1 w25 = some st) : W p l e room_1 s m #[Value.ref b] below meth c H locs cells slots Q (F0 m 1401 ls []) := by
  obtain ⟨hx, hb, hml, hown, hts, hX, hbl, hCa, hlst, hLL⟩ := id F
  have hbA : ¬ xA s.heap.size b := Nat.not_le.mpr hbl
  unfold fS1401 at hG
  refine lv_iconst (v := (nI 1)) hx hb dL_law_1401 (by decide) ?_
  refine lv_iload hx hb dL_law_1402 (lv_at hl 20 rfl) ?_
  refine lv_bipush (v := (nI 14)) hx hb dL_law_1404 (by decide) ?_
  refine lv_ishr hx hb dL_law_1406 ?_
  refine lv_bipush (v := (nI 80)) hx hb dL_law_1407 (by decide) ?_
  refine xcsR (As := [.int (y1 >>> ((nI 14) &&& 31)), .int (nI 80)]) (rest := [.int (nI 1)]) (v := some (.int (nI (lowN (y1 >>> ((nI 14) &&& 31)) 80)))) ⟨hx, hb, hml, hown, hts⟩ (mL_low l s.heap.size D E h (y1 >>> ((nI 14) &&& 31)) 80 (by first | assumption | omega) (by first | assumption | omega)) (va_cwS 2 hts gL_law_L_low rfl rfl rfl (by decide +kernel) ⟨Nat.le_of_ble_eq_true rfl, Nat.le_of_ble_eq_true rfl⟩) I rfl hl.1 rfl (Nat.le_of_ble_eq_true rfl) dL_law_1409 ⟨show cells + 0 ≤ 600086 by omega, show slots + 0 ≤ 7301442 by omega⟩ ?_
  refine W.eq (g2 := F0 m 1412 ls [.int (nI (lowN (y1 >>> ((nI 14) &&& 31)) 80)), .int (nI 1)]) rfl ?_
  have l1409 : lowN (y1 >>> ((nI 14) &&& 31)) 80 < 80 := lowN_lt _ (by omega)
  refine lv_iadd hx hb dL_law_1412 ?_
  refine xtop (y := .int (nI (1 + (lowN (y1 >>> ((nI 14) &&& 31)) 80)))) (congrArg Value.int (nI_add _ _)) ?_
  refine lv_istore (lv' := [(27, .int (nI (1 + (lowN (y1 >>> ((nI 14) &&& 31)) 80)))), (0, .ref b), (1, .ref (ad 0 0)), (2, .ref (ar 0)), (3, .ref (ar 1)), (4, .ref (ar 2)), (5, .ref (ar 3)), (6, .ref (ar 4)), (7, .ref (ar 5)), (8, .ref (ar 6)), (9, .ref (ar 8)), (10, .ref (ar 7)), (11, .ref (ar 9)), (12, .long q12), (14, .int (nI n14)), (15, .int (nI n15)), (16, .int (nI n16)), (17, .int (nI n17)), (18, .int (nI n18)), (19, .int (nI n19)), (23, .int (nI w23)), (21, .int y1), (25, .int (nI w25))]) hx hb dL_law_1413 hl (by decide) rfl (fun ls hl => ?_)
  refine lv_aload hx hb dL_law_1415 (lv_at hl 9 rfl) ?_
  refine lv_iconst (v := (nI 3)) hx hb dL_law_1417 (by decide) ?_
  refine lv_iload hx hb dL_law_1418 (lv_at hl 22 rfl) ?_
  refine lv_iadd hx hb dL_law_1420 ?_
  refine xtop (y := .int (nI (3 + w25))) (congrArg Value.int (nI_add _ _)) ?_
  refine xiald (i := (3 + w25)) (n := 6) hx hb I (hL.1 6 6 (by decide)) (by omega) (by decide) dL_law_1421 ?_
  have g1421 : lK σ 6 (3 + w25) < 1073741824 := hW.2.2.2.2.2.1 6 (3 + w25)
  refine lv_iload hx hb dL_law_1422 (lv_at hl 0 rfl) ?_
  refine lv_iadd hx hb dL_law_1424 ?_
  refine xtop (y := .int (nI (lK σ 6 (3 + w25) + (1 + (lowN (y1 >>> ((nI 14) &&& 31)) 80))))) (congrArg Value.int (nI_add _ _)) ?_
  refine lv_sipush (v := (nI 1000)) hx hb dL_law_1425 (by decide) ?_
  refine lv_icmp_gt (tgt := 1463) hx hb dL_law_1428 (by decide) (fun c_1428 => ?_) (fun c_1428 => ?_)
  · skip
    have c_1428 : 1000 < lK σ 6 (3 + w25) + (1 + (lowN (y1 >>> ((nI 14) &&& 31)) 80)) := (nI_ltI (a := 1000) (b := (lK σ 6 (3 + w25) + (1 + (lowN (y1 >>> ((nI 14) &&& 31)) 80)))) (by omega) (by omega)).mp c_1428
    rw [if_pos c_1428] at hG
    exact sS1463 F I hL hR hS hW hC (by omega) (by omega) (by omega) (by omega) (by omega) (by omega) (by first | assumption | omega) (by first | assumption | omega) (by omega) (by omega) hK1 hK2 (lv_sub hl [1, 2, 3, 4, 5, 6, 7, 8, 9, 10, 11, 12, 13, 14, 15, 16, 17, 18, 19, 20, 21, 22] rfl) kk hG
  · skip
    have c_1428 : ¬ 1000 < lK σ 6 (3 + w25) + (1 + (lowN (y1 >>> ((nI 14) &&& 31)) 80)) := fun q => c_1428 ((nI_ltI (a := 1000) (b := (lK σ 6 (3 + w25) + (1 + (lowN (y1 >>> ((nI 14) &&& 31)) 80)))) (by omega) (by omega)).mpr q)
    rw [if_neg c_1428] at hG
    refine lv_aload hx hb dL_law_1431 (lv_at hl 9 rfl) ?_
    refine lv_iconst (v := (nI 3)) hx hb dL_law_1433 (by decide) ?_
    refine lv_iload hx hb dL_law_1434 (lv_at hl 22 rfl) ?_
    refine lv_iadd hx hb dL_law_1436 ?_
    refine xtop (y := .int (nI (3 + w25))) (congrArg Value.int (nI_add _ _)) ?_
    refine lv_dup2_11 hx hb dL_law_1437 rfl rfl ?_
    refine xiald (i := (3 + w25)) (n := 6) hx hb I (hL.1 6 6 (by decide)) (by omega) (by decide) dL_law_1438 ?_
    have g1438 : lK σ 6 (3 + w25) < 1073741824 := hW.2.2.2.2.2.1 6 (3 + w25)
    refine lv_iload hx hb dL_law_1439 (lv_at hl 0 rfl) ?_
    refine lv_iadd hx hb dL_law_1441 ?_
    refine xtop (y := .int (nI (lK σ 6 (3 + w25) + (1 + (lowN (y1 >>> ((nI 14) &&& 31)) 80))))) (congrArg Value.int (nI_add _ _)) ?_
    refine xkS (x := (lK σ 6 (3 + w25) + (1 + (lowN (y1 >>> ((nI 14) &&& 31)) 80)))) (i := (3 + w25)) (n := 6) 6 hx hb I hS hL hR (by decide) (by omega) (by decide) dL_law_1442 (fun H locs hw I hL hR hS => ?_)
    have hW : LW (lSK σ 6 (3 + w25) (lK σ 6 (3 + w25) + (1 + (lowN (y1 >>> ((nI 14) &&& 31)) 80)))) := hW.sK 6 (3 + w25) (lK σ 6 (3 + w25) + (1 + (lowN (y1 >>> ((nI 14) &&& 31)) 80))) (by omega) (by intro z q; first | exact absurd z (by decide) | omega | (obtain ⟨i, hi⟩ := q; omega)) (by intro z q; first | exact absurd z (by decide) | omega | (obtain ⟨i, hi⟩ := q; omega)) (by intro z q; first | exact absurd z (by decide) | omega | (obtain ⟨i, hi⟩ := q; omega)) (by intro z q; first | exact absurd z (by decide) | omega | (obtain ⟨i, hi⟩ := q; omega)) (by intro z q; first | exact absurd z (by decide) | omega | (obtain ⟨i, hi⟩ := q; omega))
    refine lv_aload_n hx hb dL_law_1443 rfl (lv_at hl 2 rfl) ?_
    refine lv_iload hx hb dL_law_1444 (lv_at hl 22 rfl) ?_
    refine lv_iload hx hb dL_law_1446 (lv_at hl 0 rfl) ?_
    cases e1448 : (fX7_further τ (nI w25) (nI (1 + (lowN (y1 >>> ((nI 14) &&& 31)) 80)))) with
    | inl En => rw [e1448] at hG; exact absurd (show (none : Option ST) = some st from hG) (fun z => nomatch z)
    | inr x1448 =>
      rw [e1448] at hG
      have hG : (if x1448.1 = (nI (lK (lSK σ 6 (3 + w25) (lK σ 6 (3 + w25) + (1 + (lowN (y1 >>> ((nI 14) &&& 31)) 80)))) 6 (3 + w25))) then (fS1463 (lSK σ 6 (3 + w25) (lK σ 6 (3 + w25) + (1 + (lowN (y1 >>> ((nI 14) &&& 31)) 80)))) x1448.2 q12 n14 n15 n16 n17 w23 y1 w25) else none) = some st := hG
      refine xcvN (As := [.int (nI w25), .int (nI (1 + (lowN (y1 >>> ((nI 14) &&& 31)) 80)))]) (rest := []) ⟨hx, hb, hml, hown, hts⟩ (mX7_further l s.heap.size D E hw hlst (lPr ar) τ ad fa hR hC (nI w25) (nI (1 + (lowN (y1 >>> ((nI 14) &&& 31)) 80)))) (cwV 2 hts gL_law_X7_further rfl rfl rfl (by decide +kernel) ⟨Nat.le_of_ble_eq_true rfl, Nat.le_of_ble_eq_true rfl⟩) I hS hR.f0 rfl rfl hl.1 rfl (Nat.le_of_ble_eq_true rfl) dL_law_1448 ⟨show cells + 4 ≤ 600086 by omega, show slots + 24 ≤ 7301442 by omega⟩ (fun En q => by rw [e1448] at q; cases q) (fun v9 hw H locs q9 I hS => ?_)
      obtain ⟨y9, e9, q1, hR, hF, hC⟩ := q9
      have e9 := Sum.inr.inj (e1448.symm.trans e9)
      subst e9
      subst q1
      have hL := hL.keep hF
      refine W.eq (g2 := F0 m 1451 ls [.int x1448.1]) rfl ?_
      refine lv_aload hx hb dL_law_1451 (lv_at hl 9 rfl) ?_
      refine lv_iconst (v := (nI 3)) hx hb dL_law_1453 (by decide) ?_
      refine lv_iload hx hb dL_law_1454 (lv_at hl 22 rfl) ?_
      refine lv_iadd hx hb dL_law_1456 ?_
      refine xtop (y := .int (nI (3 + w25))) (congrArg Value.int (nI_add _ _)) ?_
      refine xiald (i := (3 + w25)) (n := 6) hx hb I (hL.1 6 6 (by decide)) (by omega) (by decide) dL_law_1457 ?_
      have g1457 : lK (lSK σ 6 (3 + w25) (lK σ 6 (3 + w25) + (1 + (lowN (y1 >>> ((nI 14) &&& 31)) 80)))) 6 (3 + w25) < 1073741824 := hW.2.2.2.2.2.1 6 (3 + w25)
      refine lv_icmp_eq (tgt := 1463) hx hb dL_law_1458 (by decide) (fun c_1458 => ?_) (fun c_1458 => ?_)
      · skip
        rw [if_pos c_1458] at hG
        exact sS1463 F I hL hR hS hW hC (by omega) (by omega) (by omega) (by omega) (by omega) (by omega) (by first | assumption | omega) (by first | assumption | omega) (by omega) (by omega) hK1 hK2 (lv_sub hl [1, 2, 3, 4, 5, 6, 7, 8, 9, 10, 11, 12, 13, 14, 15, 16, 17, 18, 19, 20, 21, 22] rfl) kk hG
      · skip
        rw [if_neg c_1458] at hG
        refine lv_iconst (v := (nI 0)) hx hb dL_law_1461 (by decide) ?_
        exact absurd (show (none : Option ST) = some st from hG) (fun z => nomatch z)

def fS1326_S1332 (σ : LT) (τ : CT) (q12 : Int64) (n14 : Nat) (n15 : Nat) (n16 : Nat) (n17 : Nat) (w23 : Nat) (y1 : Int32) (w25 : Nat) (k1332 : Nat) (a1332_26 : Nat) : (Nat) := (if (lI σ 7 (3 * k1332 + w25)) = (nI 1) then 1 else a1332_26)
def fS1326_L1332 (σ : LT) (τ : CT) (q12 : Int64) (n14 : Nat) (n15 : Nat) (n16 : Nat) (n17 : Nat) (w23 : Nat) (y1 : Int32) (w25 : Nat) : Nat → Nat → Nat → Option ST
  | 0, k1332, a1332_26 => (if a1332_26 = 0 then (lcall none (fX7_advance τ (nI w25) (nI (lowN y1 9000))) (fun x1381 => (if x1381.1 = (nI (lK σ 6 w25)) then (fS1401 (lSK σ 6 w25 (lowN y1 9000)) x1381.2 q12 n14 n15 n16 n17 w23 y1 w25) else none))) else (fS1401 σ τ q12 n14 n15 n16 n17 w23 y1 w25))
  | n1332 + 1, k1332, a1332_26 => lseq (fS1326_S1332 σ τ q12 n14 n15 n16 n17 w23 y1 w25 k1332 a1332_26) (fun q => fS1326_L1332 σ τ q12 n14 n15 n16 n17 w23 y1 w25 n1332 (k1332 + 1) q)
def fS1326 (σ : LT) (τ : CT) (q12 : Int64) (n14 : Nat) (n15 : Nat) (n16 : Nat) (n17 : Nat) (w23 : Nat) (y1 : Int32) (w25 : Nat) : Option ST := (fS1326_L1332 σ τ q12 n14 n15 n16 n17 w23 y1 w25 3 0 0)
set_option maxHeartbeats 4000000 in
set_option maxRecDepth 100000 in
theorem sS1326 {p : Program} {l : Launch} {e : Env} {s : State} {m : MethodId} {below : List Frame} {meth : Method} {c : Code} {b L : Nat} {xs : Nat → Int32} {Q : State → Prop} {D : va_G} {E : Nat → ClassId} {σ : LT} {τ : CT} {ad : Nat → Nat → Nat} {fa : Nat → Nat → Option Nat} {ar : Nat → Nat} {h : XW} {H : Heap} {locs : List Loc} {cells slots K Ks : Nat}  {q12 : Int64} {n14 n15 n16 n17 n18 n19 : Nat} {w23 : Nat} {y1 : Int32} {w25 : Nat} {st : ST} {ls : Array Slot} (F : LF p l s m c b L xs) (I : XI s.heap.size D E h s H) (hL : RA E σ ar h) (hR : RC E (lPr ar) τ ad fa h) (hS : va_S (xA s.heap.size) s.heap H locs) (hW : LW σ) (hC : CW τ)  (h14 : n14 ≤ 12) (h15 : n15 ≤ 10) (h16 : n16 ≤ 10) (h17 : n17 < 300) (h18 : n18 < 1000) (h19 : n19 < 44) (h23 : w23 < 3) (h25 : w25 < 3) (hc1 : cells + 200 ≤ K) (hc2 : slots + 2000 ≤ Ks) (hK1 : K ≤ 600086) (hK2 : Ks ≤ 7301442) (hl : lv_has ls 39 [(0, .ref b), (1, .ref (ad 0 0)), (2, .ref (ar 0)), (3, .ref (ar 1)), (4, .ref (ar 2)), (5, .ref (ar 3)), (6, .ref (ar 4)), (7, .ref (ar 5)), (8, .ref (ar 6)), (9, .ref (ar 8)), (10, .ref (ar 7)), (11, .ref (ar 9)), (12, .long q12), (14, .int (nI n14)), (15, .int (nI n15)), (16, .int (nI n16)), (17, .int (nI n17)), (18, .int (nI n18)), (19, .int (nI n19)), (23, .int (nI w23)), (21, .int y1), (25, .int (nI w25))]) (kk : lKK p l e s m below meth c b D E ar Q K Ks n18 n19 2560 st) (hG : fS1326 σ τ q12 n14 n15 n16 n17 w23 y1 w25 = some st) : W p l e room_1 s m #[Value.ref b] below meth c H locs cells slots Q (F0 m 1326 ls []) := by
  obtain ⟨hx, hb, hml, hown, hts, hX, hbl, hCa, hlst, hLL⟩ := id F
  have hbA : ¬ xA s.heap.size b := Nat.not_le.mpr hbl
  unfold fS1326 at hG
  refine lv_iconst (v := (nI 0)) hx hb dL_law_1326 (by decide) ?_
  refine lv_istore (lv' := [(26, .int (nI 0)), (0, .ref b), (1, .ref (ad 0 0)), (2, .ref (ar 0)), (3, .ref (ar 1)), (4, .ref (ar 2)), (5, .ref (ar 3)), (6, .ref (ar 4)), (7, .ref (ar 5)), (8, .ref (ar 6)), (9, .ref (ar 8)), (10, .ref (ar 7)), (11, .ref (ar 9)), (12, .long q12), (14, .int (nI n14)), (15, .int (nI n15)), (16, .int (nI n16)), (17, .int (nI n17)), (18, .int (nI n18)), (19, .int (nI n19)), (23, .int (nI w23)), (21, .int y1), (25, .int (nI w25))]) hx hb dL_law_1327 hl (by decide) rfl (fun ls hl => ?_)
  refine lv_iconst (v := (nI 0)) hx hb dL_law_1329 (by decide) ?_
  refine lv_istore (lv' := [(27, .int (nI 0)), (26, .int (nI 0)), (0, .ref b), (1, .ref (ad 0 0)), (2, .ref (ar 0)), (3, .ref (ar 1)), (4, .ref (ar 2)), (5, .ref (ar 3)), (6, .ref (ar 4)), (7, .ref (ar 5)), (8, .ref (ar 6)), (9, .ref (ar 8)), (10, .ref (ar 7)), (11, .ref (ar 9)), (12, .long q12), (14, .int (nI n14)), (15, .int (nI n15)), (16, .int (nI n16)), (17, .int (nI n17)), (18, .int (nI n18)), (19, .int (nI n19)), (23, .int (nI w23)), (21, .int y1), (25, .int (nI w25))]) hx hb dL_law_1330 hl (by decide) rfl (fun ls hl => ?_)
  have L1332 : ∀ (n1332 : Nat) (k1332 : Nat) (a1332_26 : Nat), k1332 + n1332 = 3 → (a1332_26 ≤ 1) → fS1326_L1332 σ τ q12 n14 n15 n16 n17 w23 y1 w25 n1332 k1332 a1332_26 = some st → ∀ ls : Array Slot, lv_has ls 39 [(0, .ref b), (1, .ref (ad 0 0)), (2, .ref (ar 0)), (3, .ref (ar 1)), (4, .ref (ar 2)), (5, .ref (ar 3)), (6, .ref (ar 4)), (7, .ref (ar 5)), (8, .ref (ar 6)), (9, .ref (ar 8)), (10, .ref (ar 7)), (11, .ref (ar 9)), (12, .long q12), (14, .int (nI n14)), (15, .int (nI n15)), (16, .int (nI n16)), (17, .int (nI n17)), (18, .int (nI n18)), (19, .int (nI n19)), (21, .int y1), (23, .int (nI w23)), (25, .int (nI w25)), (26, .int (nI a1332_26)), (27, .int (nI k1332))] → W p l e room_1 s m #[Value.ref b] below meth c H locs cells slots Q (F0 m 1332 ls []) := by
    intro n1332
    induction n1332 with
    | zero =>
      intro k1332 a1332_26 hkn i1332_0 hG ls hl
      have hkN : k1332 = 3 := by omega
      have hG : (if a1332_26 = 0 then (lcall none (fX7_advance τ (nI w25) (nI (lowN y1 9000))) (fun x1381 => (if x1381.1 = (nI (lK σ 6 w25)) then (fS1401 (lSK σ 6 w25 (lowN y1 9000)) x1381.2 q12 n14 n15 n16 n17 w23 y1 w25) else none))) else (fS1401 σ τ q12 n14 n15 n16 n17 w23 y1 w25)) = some st := hG
      refine lv_iload hx hb dL_law_1332 (lv_at hl 23 rfl) ?_
      refine lv_iconst (v := (nI 3)) hx hb dL_law_1334 (by decide) ?_
      refine lv_icmp_ge (tgt := 1361) hx hb dL_law_1335 (by decide) (fun _ => ?_) (fun q => absurd (nI_le (Nat.le_of_eq hkN.symm) (by omega)) q)
      refine lv_iload hx hb dL_law_1361 (lv_at hl 22 rfl) ?_
      refine lv_if_ne (tgt := 1401) hx hb dL_law_1363 (by decide) (fun c_1363 => ?_) (fun c_1363 => ?_)
      · skip
        have c_1363 : ¬ a1332_26 = 0 := fun q => c_1363 ((nI_eq (a := a1332_26) (b := 0) (by omega) (by omega)).mpr q)
        rw [if_neg c_1363] at hG
        exact sS1401 F I hL hR hS hW hC (by omega) (by omega) (by omega) (by omega) (by omega) (by omega) (by first | assumption | omega) (by first | assumption | omega) (by omega) (by omega) hK1 hK2 (lv_sub hl [0, 1, 2, 3, 4, 5, 6, 7, 8, 9, 10, 11, 12, 13, 14, 15, 16, 17, 18, 20, 19, 21] rfl) kk hG
      · skip
        have c_1363 : a1332_26 = 0 := (nI_eq (a := a1332_26) (b := 0) (by omega) (by omega)).mp c_1363
        rw [if_pos c_1363] at hG
        refine lv_iload hx hb dL_law_1366 (lv_at hl 19 rfl) ?_
        refine lv_sipush (v := (nI 9000)) hx hb dL_law_1368 (by decide) ?_
        refine xcsR (As := [.int y1, .int (nI 9000)]) (rest := []) (v := some (.int (nI (lowN y1 9000)))) ⟨hx, hb, hml, hown, hts⟩ (mL_low l s.heap.size D E h y1 9000 (by first | assumption | omega) (by first | assumption | omega)) (va_cwS 2 hts gL_law_L_low rfl rfl rfl (by decide +kernel) ⟨Nat.le_of_ble_eq_true rfl, Nat.le_of_ble_eq_true rfl⟩) I rfl hl.1 rfl (Nat.le_of_ble_eq_true rfl) dL_law_1371 ⟨show cells + 0 ≤ 600086 by omega, show slots + 0 ≤ 7301442 by omega⟩ ?_
        refine W.eq (g2 := F0 m 1374 ls [.int (nI (lowN y1 9000))]) rfl ?_
        have l1371 : lowN y1 9000 < 9000 := lowN_lt _ (by omega)
        refine lv_istore (lv' := [(27, .int (nI (lowN y1 9000))), (0, .ref b), (1, .ref (ad 0 0)), (2, .ref (ar 0)), (3, .ref (ar 1)), (4, .ref (ar 2)), (5, .ref (ar 3)), (6, .ref (ar 4)), (7, .ref (ar 5)), (8, .ref (ar 6)), (9, .ref (ar 8)), (10, .ref (ar 7)), (11, .ref (ar 9)), (12, .long q12), (14, .int (nI n14)), (15, .int (nI n15)), (16, .int (nI n16)), (17, .int (nI n17)), (18, .int (nI n18)), (19, .int (nI n19)), (21, .int y1), (23, .int (nI w23)), (25, .int (nI w25)), (26, .int (nI a1332_26))]) hx hb dL_law_1374 hl (by decide) rfl (fun ls hl => ?_)
        refine lv_aload_n hx hb dL_law_1376 rfl (lv_at hl 2 rfl) ?_
        refine lv_iload hx hb dL_law_1377 (lv_at hl 22 rfl) ?_
        refine lv_iload hx hb dL_law_1379 (lv_at hl 0 rfl) ?_
        cases e1381 : (fX7_advance τ (nI w25) (nI (lowN y1 9000))) with
        | inl En => rw [e1381] at hG; exact absurd (show (none : Option ST) = some st from hG) (fun z => nomatch z)
        | inr x1381 =>
          rw [e1381] at hG
          have hG : (if x1381.1 = (nI (lK σ 6 w25)) then (fS1401 (lSK σ 6 w25 (lowN y1 9000)) x1381.2 q12 n14 n15 n16 n17 w23 y1 w25) else none) = some st := hG
          refine xcvN (As := [.int (nI w25), .int (nI (lowN y1 9000))]) (rest := []) ⟨hx, hb, hml, hown, hts⟩ (mX7_advance l s.heap.size D E h hlst (lPr ar) τ ad fa hR hC (nI w25) (nI (lowN y1 9000))) (cwV 2 hts gL_law_X7_advance rfl rfl rfl (by decide +kernel) ⟨Nat.le_of_ble_eq_true rfl, Nat.le_of_ble_eq_true rfl⟩) I hS hR.f0 rfl rfl hl.1 rfl (Nat.le_of_ble_eq_true rfl) dL_law_1381 ⟨show cells + 4 ≤ 600086 by omega, show slots + 24 ≤ 7301442 by omega⟩ (fun En q => by rw [e1381] at q; cases q) (fun v9 hw H locs q9 I hS => ?_)
          obtain ⟨y9, e9, q1, hR, hF, hC⟩ := q9
          have e9 := Sum.inr.inj (e1381.symm.trans e9)
          subst e9
          subst q1
          have hL := hL.keep hF
          refine W.eq (g2 := F0 m 1384 ls [.int x1381.1]) rfl ?_
          refine lv_aload hx hb dL_law_1384 (lv_at hl 9 rfl) ?_
          refine lv_iload hx hb dL_law_1386 (lv_at hl 22 rfl) ?_
          refine xiald (i := w25) (n := 6) hx hb I (hL.1 6 6 (by decide)) (by omega) (by decide) dL_law_1388 ?_
          have g1388 : lK σ 6 w25 < 1073741824 := hW.2.2.2.2.2.1 6 w25
          refine lv_icmp_eq (tgt := 1394) hx hb dL_law_1389 (by decide) (fun c_1389 => ?_) (fun c_1389 => ?_)
          · skip
            rw [if_pos c_1389] at hG
            refine lv_aload hx hb dL_law_1394 (lv_at hl 9 rfl) ?_
            refine lv_iload hx hb dL_law_1396 (lv_at hl 22 rfl) ?_
            refine lv_iload hx hb dL_law_1398 (lv_at hl 0 rfl) ?_
            refine xkS (x := (lowN y1 9000)) (i := w25) (n := 6) 6 hx hb I hS hL hR (by decide) (by omega) (by decide) dL_law_1400 (fun H locs hw I hL hR hS => ?_)
            have hW : LW (lSK σ 6 w25 (lowN y1 9000)) := hW.sK 6 w25 (lowN y1 9000) (by omega) (by intro z q; first | exact absurd z (by decide) | omega | (obtain ⟨i, hi⟩ := q; omega)) (by intro z q; first | exact absurd z (by decide) | omega | (obtain ⟨i, hi⟩ := q; omega)) (by intro z q; first | exact absurd z (by decide) | omega | (obtain ⟨i, hi⟩ := q; omega)) (by intro z q; first | exact absurd z (by decide) | omega | (obtain ⟨i, hi⟩ := q; omega)) (by intro z q; first | exact absurd z (by decide) | omega | (obtain ⟨i, hi⟩ := q; omega))
            exact sS1401 F I hL hR hS hW hC (by omega) (by omega) (by omega) (by omega) (by omega) (by omega) (by first | assumption | omega) (by first | assumption | omega) (by omega) (by omega) hK1 hK2 (lv_sub hl [1, 2, 3, 4, 5, 6, 7, 8, 9, 10, 11, 12, 13, 14, 15, 16, 17, 18, 19, 21, 20, 22] rfl) kk hG
          · skip
            rw [if_neg c_1389] at hG
            refine lv_iconst (v := (nI 0)) hx hb dL_law_1392 (by decide) ?_
            exact absurd (show (none : Option ST) = some st from hG) (fun z => nomatch z)
    | succ n1332 ih1332 =>
      intro k1332 a1332_26 hkn i1332_0 hG ls hl
      have hk : k1332 < 3 := by omega
      have hG : lseq ((if (lI σ 7 (3 * k1332 + w25)) = (nI 1) then 1 else a1332_26)) (fun q => fS1326_L1332 σ τ q12 n14 n15 n16 n17 w23 y1 w25 n1332 (k1332 + 1) q) = some st := hG
      refine lv_iload hx hb dL_law_1332 (lv_at hl 23 rfl) ?_
      refine lv_iconst (v := (nI 3)) hx hb dL_law_1334 (by decide) ?_
      refine lv_icmp_ge (tgt := 1361) hx hb dL_law_1335 (by decide) (fun q => absurd q (nI_ge hk (by omega))) (fun _ => ?_)
      refine lv_aload hx hb dL_law_1338 (lv_at hl 10 rfl) ?_
      refine lv_iconst (v := (nI 3)) hx hb dL_law_1340 (by decide) ?_
      refine lv_iload hx hb dL_law_1341 (lv_at hl 23 rfl) ?_
      refine lv_imul hx hb dL_law_1343 ?_
      refine xtop (y := .int (nI (3 * k1332))) (congrArg Value.int (pk_mul _ _)) ?_
      refine lv_iload hx hb dL_law_1344 (lv_at hl 21 rfl) ?_
      refine lv_iadd hx hb dL_law_1346 ?_
      refine xtop (y := .int (nI (3 * k1332 + w25))) (congrArg Value.int (nI_add _ _)) ?_
      refine xiald (i := (3 * k1332 + w25)) (n := 16) hx hb I (hL.2.1 7 16 (by decide)) (by omega) (by decide) dL_law_1347 ?_
      refine lv_iconst (v := (nI 1)) hx hb dL_law_1348 (by decide) ?_
      refine lv_icmp_ne (tgt := 1355) hx hb dL_law_1349 (by decide) (fun c_1349 => ?_) (fun c_1349 => ?_)
      · skip
        rw [if_neg c_1349] at hG
        refine lv_iinc (v := (nI (k1332 + 1))) (lv' := [(27, .int (nI (k1332 + 1))), (0, .ref b), (1, .ref (ad 0 0)), (2, .ref (ar 0)), (3, .ref (ar 1)), (4, .ref (ar 2)), (5, .ref (ar 3)), (6, .ref (ar 4)), (7, .ref (ar 5)), (8, .ref (ar 6)), (9, .ref (ar 8)), (10, .ref (ar 7)), (11, .ref (ar 9)), (12, .long q12), (14, .int (nI n14)), (15, .int (nI n15)), (16, .int (nI n16)), (17, .int (nI n17)), (18, .int (nI n18)), (19, .int (nI n19)), (21, .int y1), (23, .int (nI w23)), (25, .int (nI w25)), (26, .int (nI a1332_26))]) hx hb dL_law_1355 hl (k := 23) rfl (nI_succ k1332).symm (by decide) rfl (fun ls hl => ?_)
        refine lv_goto (tgt := 1332) hx hb dL_law_1358 (by decide) ?_
        exact ih1332 (k1332 + 1) a1332_26 (by first | omega | (simp only [lSI_K]; omega)) (by first | assumption | omega) hG ls (lv_sub hl [1, 2, 3, 4, 5, 6, 7, 8, 9, 10, 11, 12, 13, 14, 15, 16, 17, 18, 19, 20, 21, 22, 23, 0] rfl)
      · skip
        rw [if_pos c_1349] at hG
        refine lv_iconst (v := (nI 1)) hx hb dL_law_1352 (by decide) ?_
        refine lv_istore (lv' := [(26, .int (nI 1)), (0, .ref b), (1, .ref (ad 0 0)), (2, .ref (ar 0)), (3, .ref (ar 1)), (4, .ref (ar 2)), (5, .ref (ar 3)), (6, .ref (ar 4)), (7, .ref (ar 5)), (8, .ref (ar 6)), (9, .ref (ar 8)), (10, .ref (ar 7)), (11, .ref (ar 9)), (12, .long q12), (14, .int (nI n14)), (15, .int (nI n15)), (16, .int (nI n16)), (17, .int (nI n17)), (18, .int (nI n18)), (19, .int (nI n19)), (21, .int y1), (23, .int (nI w23)), (25, .int (nI w25)), (27, .int (nI k1332))]) hx hb dL_law_1353 hl (by decide) rfl (fun ls hl => ?_)
        refine lv_iinc (v := (nI (k1332 + 1))) (lv' := [(27, .int (nI (k1332 + 1))), (26, .int (nI 1)), (0, .ref b), (1, .ref (ad 0 0)), (2, .ref (ar 0)), (3, .ref (ar 1)), (4, .ref (ar 2)), (5, .ref (ar 3)), (6, .ref (ar 4)), (7, .ref (ar 5)), (8, .ref (ar 6)), (9, .ref (ar 8)), (10, .ref (ar 7)), (11, .ref (ar 9)), (12, .long q12), (14, .int (nI n14)), (15, .int (nI n15)), (16, .int (nI n16)), (17, .int (nI n17)), (18, .int (nI n18)), (19, .int (nI n19)), (21, .int y1), (23, .int (nI w23)), (25, .int (nI w25))]) hx hb dL_law_1355 hl (k := 23) rfl (nI_succ k1332).symm (by decide) rfl (fun ls hl => ?_)
        refine lv_goto (tgt := 1332) hx hb dL_law_1358 (by decide) ?_
        exact ih1332 (k1332 + 1) 1 (by first | omega | (simp only [lSI_K]; omega)) (by first | assumption | omega) hG ls (lv_sub hl [2, 3, 4, 5, 6, 7, 8, 9, 10, 11, 12, 13, 14, 15, 16, 17, 18, 19, 20, 21, 22, 23, 1, 0] rfl)
  exact L1332 3 0 0 (by omega) (by first | assumption | omega) hG ls (lv_sub hl [2, 3, 4, 5, 6, 7, 8, 9, 10, 11, 12, 13, 14, 15, 16, 17, 18, 19, 20, 22, 21, 23, 1, 0] rfl)
