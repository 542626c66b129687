section JA3
variable {t : Nat} {σ : LT} {τ : CT} {q12 : Int64} {n14 n15 n16 n17 : Nat}
theorem nc_12 (T : CT) (s k : Nat) (x z : Int32) (e g c : Nat) : cK (cSI (cNewC T s k x e) 30 g z) 12 c = if c = cN T 3 then s else cK T 12 c := by rw [cSI_K, cNewC_K]; simp
theorem nc_15 (T : CT) (s k : Nat) (x z : Int32) (e g c : Nat) : cK (cSI (cNewC T s k x e) 30 g z) 15 c = if c = cN T 3 then k else cK T 15 c := by rw [cSI_K, cNewC_K]; simp
theorem nc_13 (T : CT) (s k : Nat) (x z : Int32) (e g c : Nat) : cK (cSI (cNewC T s k x e) 30 g z) 13 c = if c = cN T 3 then e else cK T 13 c := by rw [cSI_K, cNewC_K]; simp
theorem nc_16 (T : CT) (s k : Nat) (x z : Int32) (e g c : Nat) : cK (cSI (cNewC T s k x e) 30 g z) 16 c = cK T 16 c := by rw [cSI_K, cNewC_K]; simp
theorem nc_24 (T : CT) (s k : Nat) (x z : Int32) (e g c : Nat) : cI (cSI (cNewC T s k x e) 30 g z) 24 c = if c = cN T 3 then x else cI T 24 c := by rw [cSI_I, cNewC_I]; simp
theorem nc_26 (T : CT) (s k : Nat) (x z : Int32) (e g c : Nat) : cI (cSI (cNewC T s k x e) 30 g z) 26 c = if c = cN T 3 then 0 else cI T 26 c := by rw [cSI_I, cNewC_I]; simp
theorem nc_27 (T : CT) (s k : Nat) (x z : Int32) (e g c : Nat) : cI (cSI (cNewC T s k x e) 30 g z) 27 c = if c = cN T 3 then 0 else cI T 27 c := by rw [cSI_I, cNewC_I]; simp
theorem nc_28 (T : CT) (s k : Nat) (x z : Int32) (e g c : Nat) : cI (cSI (cNewC T s k x e) 30 g z) 28 c = if c = cN T 3 then 0 else cI T 28 c := by rw [cSI_I, cNewC_I]; simp
theorem nc_29 (T : CT) (s k : Nat) (x z : Int32) (e g c : Nat) : cI (cSI (cNewC T s k x e) 30 g z) 29 c = cI T 29 c := by rw [cSI_I, cNewC_I]; simp
theorem nv_16 (τ : CT) (d c : Nat) : cK (cNewV τ d) 16 c = if c = cN τ 4 then d else cK τ 16 c := by rw [cNewV_K]; simp
theorem nv_29 (τ : CT) (d c : Nat) : cI (cNewV τ d) 29 c = if c = cN τ 4 then nI (cN τ 4) else cI τ 29 c := by rw [cNewV_I]; simp
def cS (σ : LT) (n s k d l e : Nat) : LT := lSK (lSK (lSK (lSK (lSK σ 3 (6 * n) s) 3 (6 * n + 1) k) 3 (6 * n + 2) d) 3 (6 * n + 3) l) 3 (6 * n + 4) e

theorem cS_0 (σ : LT) (n s k d l e c : Nat) : lK (cS σ n s k d l e) 3 (6 * c) = if c = n then s else lK σ 3 (6 * c) := by
  unfold cS
  simp only [lSK_K]
  by_cases h : c = n
  · subst h; simp
  · rw [if_neg h]
    rw [if_neg (by omega), if_neg (by omega), if_neg (by omega), if_neg (by omega), if_neg (by omega)]
theorem cS_1 (σ : LT) (n s k d l e c : Nat) : lK (cS σ n s k d l e) 3 (6 * c + 1) = if c = n then k else lK σ 3 (6 * c + 1) := by
  unfold cS
  simp only [lSK_K]
  by_cases h : c = n
  · subst h; simp
  · rw [if_neg h]
    rw [if_neg (by omega), if_neg (by omega), if_neg (by omega), if_neg (by omega), if_neg (by omega)]
theorem cS_2 (σ : LT) (n s k d l e c : Nat) : lK (cS σ n s k d l e) 3 (6 * c + 2) = if c = n then d else lK σ 3 (6 * c + 2) := by
  unfold cS
  simp only [lSK_K]
  by_cases h : c = n
  · subst h; simp
  · rw [if_neg h]
    rw [if_neg (by omega), if_neg (by omega), if_neg (by omega), if_neg (by omega), if_neg (by omega)]
theorem cS_3 (σ : LT) (n s k d l e c : Nat) : lK (cS σ n s k d l e) 3 (6 * c + 3) = if c = n then l else lK σ 3 (6 * c + 3) := by
  unfold cS
  simp only [lSK_K]
  by_cases h : c = n
  · subst h; simp
  · rw [if_neg h]
    rw [if_neg (by omega), if_neg (by omega), if_neg (by omega), if_neg (by omega), if_neg (by omega)]
theorem cS_4 (σ : LT) (n s k d l e c : Nat) : lK (cS σ n s k d l e) 3 (6 * c + 4) = if c = n then e else lK σ 3 (6 * c + 4) := by
  unfold cS
  simp only [lSK_K]
  by_cases h : c = n
  · subst h; simp
  · rw [if_neg h]
    rw [if_neg (by omega), if_neg (by omega), if_neg (by omega), if_neg (by omega), if_neg (by omega)]
theorem cS_5 (σ : LT) (n s k d l e c : Nat) : lK (cS σ n s k d l e) 3 (6 * c + 5) = lK σ 3 (6 * c + 5) := by
  unfold cS
  simp only [lSK_K]
  rw [if_neg (by omega), if_neg (by omega), if_neg (by omega), if_neg (by omega), if_neg (by omega)]
theorem and0 (a : Nat) : 0 &&& a = 0 := Nat.zero_and a
theorem cl_new (hJ : J t σ τ q12 n14 n15 n16 n17) (hW : LW σ) {s k d l : Nat} (hs : s < 5) (hk : k < 4) (hd : d ≤ n17) (hl : l ≤ 100000000) (hop : lF σ ≤ d / 100) (h10 : n15 < 10) (z : Int32) : J (t + 1) (cS σ n15 s k d l n16) (cSI (cNewC (cNewV τ d) s k (nI l) n16) 30 n16 z) q12 n14 (n15 + 1) (n16 + 1) n17 := by
  obtain ⟨⟨a0, a1, a2, a3, a4, a5, a6, b1, b2, b3, b4, b5⟩, hM, hP, hS, hE, hO, hJC, hV, hJW, hU, hY, hB⟩ := id hJ
  have h3 : cN (cNewV τ d) 3 = n15 := (cNewV_N3 τ d).trans a3
  have hev : ∀ c, c < n15 → lK σ 3 (6 * c + 4) = n16 → lK σ 3 (6 * c + 2) = d := by
    intro c hc h9
    obtain ⟨-, -, -, c4, c5, -⟩ := hJC.1 c hc
    omega
  refine ⟨⟨a0, a1, a2, ?_, ?_, a5, a6, b1, by omega, by omega, b4, b5⟩, hM, hP, hS, hE, hO, ⟨?_, ?_⟩, ?_, ⟨?_, ?_⟩, hU, hY, hB.up⟩
  · show cN (cNewV τ d) 3 + 1 = n15 + 1; rw [h3]
  · show cN τ 4 + 1 = n16 + 1; rw [a4]
  · intro c hc
    rw [nc_12, nc_15, nc_13, nc_16, nc_24, nc_26, nc_27, nc_28, cS_0, cS_1, cS_2, cS_3, cS_4, cS_5, h3]
    by_cases h : c = n15
    · subst h
      have f0 := hJC.2 c (Nat.le_refl _) h10
      simp only [if_pos]
      rw [f0]
      refine ⟨trivial, trivial, trivial, by omega, by rw [nv_16, if_pos a4.symm], hd, trivial, hl, ?_, ?_, ?_, by decide⟩
      all_goals exact ⟨fun _ => and0 _, fun _ => trivial⟩
    · simp only [if_neg h]
      obtain ⟨c1, c2, c3, c4, c5, c6, c7, c8, c9⟩ := hJC.1 c (by omega)
      exact ⟨c1, c2, c3, by omega, by rw [nv_16, if_neg (by omega)]; exact c5, c6, c7, c8, c9⟩
  · intro c h1 h2
    rw [cS_5]; exact hJC.2 c (by omega) h2
  · intro v hv
    rw [nc_29]
    by_cases h : v = n16
    · refine ⟨by rw [nv_29, if_pos (by omega), h, a4], n15, by omega, ?_⟩
      rw [nc_13, h3, if_pos rfl, h]
    · obtain ⟨v1, c, v2, v3⟩ := hV v (by omega)
      refine ⟨by rw [nv_29, if_neg (by omega)]; exact v1, c, by omega, ?_⟩
      rw [nc_13, h3, if_neg (by omega)]; exact v3
  · intro c hc h9
    rw [cS_2] at h9
    rw [cS_5]
    by_cases h : c = n15
    · rw [h, hJC.2 n15 (Nat.le_refl _) h10]; exact and0 _
    · rw [if_neg h] at h9; exact hJW.1 c (by omega) h9
  · intro c hc h9 c1 hc1 h7 h8
    have h9 : lK (cS σ n15 s k d l n16) 3 (6 * c + 2) / 100 < lF σ := h9
    rw [cS_2] at h9
    rw [cS_0, cS_0] at h7
    rw [cS_4, cS_4] at h8
    rw [cS_5, cS_5]
    have hcn : ¬ c = n15 := fun w => by rw [if_pos w] at h9; omega
    rw [if_neg hcn] at h9 h7 h8
    by_cases h : c1 = n15
    · rw [if_pos h] at h8
      have := hev c (by omega) h8.symm
      omega
    · rw [if_neg h] at h7 h8
      exact hJW.2 c (by omega) h9 c1 (by omega) h7 h8
theorem cl_old (hJ : J t σ τ q12 n14 n15 n16 n17) (hW : LW σ) {s k d l : Nat} {e : Nat} (he : e < n16) (hd16 : cK τ 16 e = d) (hs : s < 5) (hk : k < 4) (hd : d ≤ n17) (hl : l ≤ 100000000) (hop : lF σ ≤ d / 100) (h10 : n15 < 10) (z : Int32) : J (t + 1) (cS σ n15 s k d l e) (cSI (cNewC τ s k (nI l) e) 30 e z) q12 n14 (n15 + 1) n16 n17 := by
  obtain ⟨⟨a0, a1, a2, a3, a4, a5, a6, b1, b2, b3, b4, b5⟩, hM, hP, hS, hE, hO, hJC, hV, hJW, hU, hY, hB⟩ := id hJ
  have h3 : cN τ 3 = n15 := a3
  have hev : ∀ c, c < n15 → lK σ 3 (6 * c + 4) = e → lK σ 3 (6 * c + 2) = d := by
    intro c hc h9
    obtain ⟨-, -, -, c4, c5, -⟩ := hJC.1 c hc
    rw [← c5, h9]; exact hd16
  refine ⟨⟨a0, a1, a2, ?_, ?_, a5, a6, b1, by omega, by omega, b4, b5⟩, hM, hP, hS, hE, hO, ⟨?_, ?_⟩, ?_, ⟨?_, ?_⟩, hU, hY, hB.up⟩
  · show cN τ 3 + 1 = n15 + 1; rw [h3]
  · exact a4
  · intro c hc
    rw [nc_12, nc_15, nc_13, nc_16, nc_24, nc_26, nc_27, nc_28, cS_0, cS_1, cS_2, cS_3, cS_4, cS_5, h3]
    by_cases h : c = n15
    · subst h
      have f0 := hJC.2 c (Nat.le_refl _) h10
      simp only [if_pos]
      rw [f0]
      refine ⟨trivial, trivial, trivial, he, hd16, hd, trivial, hl, ?_, ?_, ?_, by decide⟩
      all_goals exact ⟨fun _ => and0 _, fun _ => trivial⟩
    · simp only [if_neg h]
      obtain ⟨c1, c2, c3, c4, c5, c6, c7, c8, c9⟩ := hJC.1 c (by omega)
      exact ⟨c1, c2, c3, by omega, c5, c6, c7, c8, c9⟩
  · intro c h1 h2
    rw [cS_5]; exact hJC.2 c (by omega) h2
  · intro v hv
    rw [nc_29]
    by_cases h : v = e
    · obtain ⟨v1, -⟩ := hV v hv
      refine ⟨v1, n15, by omega, ?_⟩
      rw [nc_13, h3, if_pos rfl, h]
    · obtain ⟨v1, c, v2, v3⟩ := hV v hv
      refine ⟨v1, c, by omega, ?_⟩
      rw [nc_13, h3, if_neg (by omega)]; exact v3
  · intro c hc h9
    rw [cS_2] at h9
    rw [cS_5]
    by_cases h : c = n15
    · rw [h, hJC.2 n15 (Nat.le_refl _) h10]; exact and0 _
    · rw [if_neg h] at h9; exact hJW.1 c (by omega) h9
  · intro c hc h9 c1 hc1 h7 h8
    have h9 : lK (cS σ n15 s k d l e) 3 (6 * c + 2) / 100 < lF σ := h9
    rw [cS_2] at h9
    rw [cS_0, cS_0] at h7
    rw [cS_4, cS_4] at h8
    rw [cS_5, cS_5]
    have hcn : ¬ c = n15 := fun w => by rw [if_pos w] at h9; omega
    rw [if_neg hcn] at h9 h7 h8
    by_cases h : c1 = n15
    · rw [if_pos h] at h8
      have := hev c (by omega) h8.symm
      omega
    · rw [if_neg h] at h7 h8
      exact hJW.2 c (by omega) h9 c1 (by omega) h7 h8
theorem cS_e (σ : LT) (n s k d l e : Nat) : lK (cS σ n s k d l e) 3 (6 * n + 4) = e := by rw [cS_4, if_pos rfl]
theorem a_claim (hJ : J t σ τ q12 n14 n15 n16 n17) (hW : LW σ) (hC : CW τ) (x y : Int32) {s : Nat} (hs : s < 5) (h10 : n15 < 10) : Aok (t + 1) (fS629 σ τ q12 n14 n15 n16 n17 x y s) := by
  obtain ⟨⟨a0, a1, a2, a3, a4, a5, a6, b1, b2, b3, b4, b5⟩, hM, hP, hS, hE, hO, hJC, hV, hJW, hU, hY, hB⟩ := id hJ
  have hd0 := lowN_lt y (n := n17 + 1) (by omega)
  have hkd := lowN_lt (x >>> ((nI 12) &&& 31)) (n := 4) (by decide)
  unfold fS629 fS629_B665
  have hq : ∃ q, 0 < q ∧ q ≤ 6000000 ∧ (if lowN (y >>> ((nI 8) &&& 31)) 2 = 0 then 1000 else 6000000) = q := by
    split
    · exact ⟨1000, by decide, by decide, rfl⟩
    · exact ⟨6000000, by decide, by decide, rfl⟩
  obtain ⟨q, q1, q2, q3⟩ := hq
  rw [q3]
  have hl := lowN_lt (y >>> ((nI 9) &&& 31)) q1
  have hv : (if n16 = 0 then (-1) else (if lowN (y >>> ((nI 5) &&& 31)) 2 = 0 then (-1) else (nI (lowN (y >>> ((nI 6) &&& 31)) n16)))) = (-1 : Int32) ∨ ∃ e, e < n16 ∧ (if n16 = 0 then (-1) else (if lowN (y >>> ((nI 5) &&& 31)) 2 = 0 then (-1) else (nI (lowN (y >>> ((nI 6) &&& 31)) n16)))) = nI e := by
    by_cases h0 : n16 = 0
    · rw [if_pos h0]; exact Or.inl rfl
    · rw [if_neg h0]
      split
      · exact Or.inl rfl
      · exact Or.inr ⟨_, lowN_lt _ (by omega), rfl⟩
  generalize (if n16 = 0 then (-1 : Int32) else (if lowN (y >>> ((nI 5) &&& 31)) 2 = 0 then (-1) else (nI (lowN (y >>> ((nI 6) &&& 31)) n16)))) = v at hv ⊢
  unfold fS629_B700
  rcases hv with rfl | ⟨e, he, rfl⟩
  · have L : ∀ n k d, k + n = n15 → fS629_L705 σ τ q12 n14 n15 n16 n17 x y s q (-1) n k d = fS629_L705 σ τ q12 n14 n15 n16 n17 x y s q (-1) 0 n15 d := by
      intro n
      induction n with
      | zero => intro k d hk; have hk : k = n15 := by omega
                rw [hk]
      | succ n ih =>
        intro k d hk
        have h9 := ih (k + 1) d (by omega)
        simp only [fS629_L705, lseq, fS629_S705] at h9 ⊢
        rw [if_pos (show (-1 : Int32) < 0 by decide)]
        exact h9
    rw [L n15 0 _ (by omega)]
    simp only [fS629_L705]
    generalize hdd : lowN y (n17 + 1) = d at hd0
    by_cases hcl : d / 100 < lF σ
    · rw [if_pos hcl]; exact Aok.same hJ rfl
    · rw [if_neg hcl, if_neg (show ¬ (0 : Int32) ≤ -1 by decide)]
      unfold fS629_B837 fS629_B846
      rw [if_neg (show ¬ (0 : Int32) ≤ -1 by decide), if_pos (show cN τ 4 ≤ cN τ 3 by omega)]
      obtain ⟨-, -, -, -, y5, -⟩ := hY.1 (d / 100) (by omega)
      have hcall : fX7_claim τ (nI s) (nI (lowN (x >>> ((nI 12) &&& 31)) 4)) (nI d) (nI (lowN (y >>> ((nI 9) &&& 31)) q)) (-1) = .inr (fX7_newClaim (cNewV τ d) s (lowN (x >>> ((nI 12) &&& 31)) 4) (nI (lowN (y >>> ((nI 9) &&& 31)) q)) n16) := by
        unfold fX7_claim fX7_checkOpen fX7_checkRoomForClaims
        rw [p_ship (by rw [a1]; exact hs) (by rw [a1]; decide), xb_inr, if_pos rfl, p_kind hkd, xb_inr, a5, p_in d rfl (by omega) (by omega) (by omega), xb_inr, p_loss (by omega), xb_inr, tn_nI (show d < 2 ^ 31 by omega), if_pos (y5.mpr (by omega)), xb_inr, a3, nI_add, if_pos (nI_le (by omega) (by decide)), xb_inr, newEvent_f, a4, tn_nI (by omega), tn_nI (by omega)]
      rw [hcall, lc_inr]
      have hJ2 := cl_new hJ hW (s := s) (k := lowN (x >>> ((nI 12) &&& 31)) 4) (d := d) (l := lowN (y >>> ((nI 9) &&& 31)) q) hs hkd (by omega) (by omega) (by omega) h10 ((cI (cNewC (cNewV τ d) s (lowN (x >>> ((nI 12) &&& 31)) 4) (nI (lowN (y >>> ((nI 9) &&& 31)) q)) n16) 30 n16) + (nI 1))
      have hx1 : (fX7_newClaim (cNewV τ d) s (lowN (x >>> ((nI 12) &&& 31)) 4) (nI (lowN (y >>> ((nI 9) &&& 31)) q)) n16).1 = nI n15 := by
        show nI (cN (cNewC (cNewV τ d) s _ _ n16) 3) - nI 1 = nI n15
        rw [cNewC_N, cNewV_N3, a3, pk_sub (by omega)]
        congr 1
      rw [if_pos hx1]
      have hof : fX7_ofClaim (fX7_newClaim (cNewV τ d) s (lowN (x >>> ((nI 12) &&& 31)) 4) (nI (lowN (y >>> ((nI 9) &&& 31)) q)) n16).2 (nI n15) (nI 1) = .inr (lN n16) := by
        obtain ⟨g1, g2, g3, g4⟩ := hJ2.2.2.2.2.2.2.1.1 n15 (by omega)
        obtain ⟨v1, -⟩ := hJ2.2.2.2.2.2.2.2.1 n16 (by omega)
        have e3 := hJ2.1.2.2.2.1
        unfold fX7_newClaim fX7_ofClaim
        rw [p_claim (show n15 < _ by rw [e3]; omega) (by rw [e3]; omega), xb_inr, p_in 1 rfl (by decide) (by decide) (by decide), xb_inr, tn_nI (by decide), if_neg (by decide), if_pos rfl, g3, cS_e, v1, nI_l (by omega)]
      rw [hof, lc_inr]
      have hcs := cS_e σ n15 s (lowN (x >>> ((nI 12) &&& 31)) 4) d (lowN (y >>> ((nI 9) &&& 31)) q) n16
      unfold cS at hcs
      rw [hcs, if_pos rfl]
      exact ⟨_, _, _, _, _, _, _, rfl, hJ2⟩
  · have L : ∀ n k d, k + n = n15 → (∃ c, k ≤ c ∧ c < n15 ∧ lK σ 3 (6 * c + 4) = e) ∨ d = cK τ 16 e → fS629_L705 σ τ q12 n14 n15 n16 n17 x y s q (nI e) n k d = fS629_L705 σ τ q12 n14 n15 n16 n17 x y s q (nI e) 0 n15 (cK τ 16 e) := by
      intro n
      induction n with
      | zero =>
        intro k d hk hd
        have hk : k = n15 := by omega
        rcases hd with ⟨c, h1, h2, -⟩ | hd
        · omega
        · rw [hk, hd]
      | succ n ih =>
        intro k d hk hd
        obtain ⟨-, -, -, c4, c5, -⟩ := hJC.1 k (by omega)
        have h9 := fun d hd => ih (k + 1) d (by omega) hd
        simp only [fS629_L705, lseq, fS629_S705] at h9 ⊢
        rw [if_neg (nI_pos (by omega))]
        by_cases hke : lK σ 3 (6 * k + 4) = e
        · rw [if_pos (congrArg nI hke)]
          exact h9 _ (Or.inr (by rw [← c5, hke]))
        · rw [if_neg (by rw [nI_eq (by omega) (by omega)]; exact hke)]
          refine h9 d ?_
          rcases hd with ⟨c, h1, h2, h3⟩ | hd
          · have : c ≠ k := fun w => hke (w ▸ h3)
            exact Or.inl ⟨c, by omega, h2, h3⟩
          · exact Or.inr hd
    obtain ⟨v1, c0, v2, v3⟩ := hV e he
    obtain ⟨-, -, d3, d4, d5, d6, -⟩ := hJC.1 c0 v2
    have hce : lK σ 3 (6 * c0 + 4) = e := d3.symm.trans v3
    have h16 : cK τ 16 e ≤ n17 := by rw [← hce, d5]; exact d6
    rw [L n15 0 _ (by omega) (Or.inl ⟨c0, Nat.zero_le _, v2, hce⟩)]
    simp only [fS629_L705]
    generalize hdd : cK τ 16 e = d at h16
    by_cases hcl : d / 100 < lF σ
    · rw [if_pos hcl]; exact Aok.same hJ rfl
    · rw [if_neg hcl, if_pos (nI_pos' (by omega)), tn_nI (by omega)]
      unfold fS629_B837 fS629_B846
      rw [if_pos (nI_pos' (by omega)), if_pos (show cN τ 4 ≤ cN τ 3 by omega)]
      obtain ⟨-, -, -, -, y5, -⟩ := hY.1 (d / 100) (by omega)
      have hcall : fX7_claim τ (nI s) (nI (lowN (x >>> ((nI 12) &&& 31)) 4)) (nI d) (nI (lowN (y >>> ((nI 9) &&& 31)) q)) (nI e) = .inr (fX7_newClaim τ s (lowN (x >>> ((nI 12) &&& 31)) 4) (nI (lowN (y >>> ((nI 9) &&& 31)) q)) e) := by
        unfold fX7_claim fX7_checkOpen fX7_checkRoomForClaims
        rw [p_ship (by rw [a1]; exact hs) (by rw [a1]; decide), xb_inr, if_neg (nI_m1 (by omega)), p_event (by omega) (by omega), xb_inr, p_kind hkd, xb_inr, a5, p_in d rfl (by omega) (by omega) (by omega), xb_inr, p_loss (by omega), xb_inr, tn_nI (show d < 2 ^ 31 by omega), hdd, if_pos rfl, if_pos (y5.mpr (by omega)), xb_inr, a3, nI_add, if_pos (nI_le (by omega) (by decide)), xb_inr, tn_nI (by omega), tn_nI (by omega)]
      rw [hcall, lc_inr]
      have hJ2 := cl_old hJ hW (s := s) (k := lowN (x >>> ((nI 12) &&& 31)) 4) (d := d) (l := lowN (y >>> ((nI 9) &&& 31)) q) he hdd hs hkd (by omega) (by omega) (by omega) h10 ((cI (cNewC τ s (lowN (x >>> ((nI 12) &&& 31)) 4) (nI (lowN (y >>> ((nI 9) &&& 31)) q)) e) 30 e) + (nI 1))
      have hx1 : (fX7_newClaim τ s (lowN (x >>> ((nI 12) &&& 31)) 4) (nI (lowN (y >>> ((nI 9) &&& 31)) q)) e).1 = nI n15 := by
        show nI (cN (cNewC τ s _ _ e) 3) - nI 1 = nI n15
        rw [cNewC_N, a3, pk_sub (by omega)]
        congr 1
      rw [if_pos hx1]
      have hof : fX7_ofClaim (fX7_newClaim τ s (lowN (x >>> ((nI 12) &&& 31)) 4) (nI (lowN (y >>> ((nI 9) &&& 31)) q)) e).2 (nI n15) (nI 1) = .inr (lN e) := by
        obtain ⟨g1, g2, g3, g4⟩ := hJ2.2.2.2.2.2.2.1.1 n15 (by omega)
        obtain ⟨v1, -⟩ := hJ2.2.2.2.2.2.2.2.1 e (by omega)
        have e3 := hJ2.1.2.2.2.1
        unfold fX7_newClaim fX7_ofClaim
        rw [p_claim (show n15 < _ by rw [e3]; omega) (by rw [e3]; omega), xb_inr, p_in 1 rfl (by decide) (by decide) (by decide), xb_inr, tn_nI (by decide), if_neg (by decide), if_pos rfl, g3, cS_e, v1, nI_l (by omega)]
      rw [hof, lc_inr]
      have hcs := cS_e σ n15 s (lowN (x >>> ((nI 12) &&& 31)) 4) d (lowN (y >>> ((nI 9) &&& 31)) q) e
      unfold cS at hcs
      rw [hcs, if_pos rfl]
      exact ⟨_, _, _, _, _, _, _, rfl, hJ2⟩
end JA3
