/-! the reference's search: one way -/
/-- what the search of the reference knows -/
def MK (R C m : Nat) (mi st : Int) (σ : fx_M) : Prop := ((1 ≤ R ∧ R ≤ 4) ∧ (1 ≤ C ∧ C ≤ 4)) ∧ (σ 20 0 26 = R ∧ σ 20 0 27 = C) ∧ (∀ k, k < 48 → σ 58 0 k = if isC R C k ∧ m.testBit (ix C k) = true then 1 else 0) ∧ ((1 ≤ σ 20 0 17 ∧ σ 20 0 17 ≤ 9) ∧ (1 ≤ σ 20 0 18 ∧ σ 20 0 18 ≤ 9) ∧ (1 ≤ σ 20 0 19 ∧ σ 20 0 19 ≤ 20)) ∧ (σ 20 0 37 = mi ∧ σ 20 0 38 = st ∧ σ 40 0 6 = 0) ∧ (1 ≤ mi ∧ mi ≤ 99) ∧ (1 ≤ st ∧ st ≤ 15)
theorem MK.of {R C m : Nat} {mi st : Int} {σ σ' : fx_M} (h : MK R C m mi st σ) (hs : ∀ o x, ((o = 20 ∧ x ≠ 39) ∨ o = 58 ∨ o = 40) → σ' o 0 x = σ o 0 x) : MK R C m mi st σ' := by
  obtain ⟨h1, h2, h3, h4, h5, h6⟩ := h
  refine ⟨h1, ?_, fun k hk => by rw [hs _ _ (by omega)]; exact h3 k hk, ?_, ?_, h6⟩
  · rw [hs _ _ (by omega), hs _ _ (by omega)]; exact h2
  · rw [hs _ _ (by omega), hs _ _ (by omega), hs _ _ (by omega)]; exact h4
  · rw [hs _ _ (by omega), hs _ _ (by omega), hs _ _ (by omega)]; exact h5
theorem df_lp (Rf Cf : Nat → Nat) (nc : Nat) {R C m : Nat} {mi st : Int} {pr pc : Nat → Nat} {sh : Nat → Nat → Bool} {σ : fx_M} (hK : MK R C m mi st σ) (hr : ∀ k, k < 144 → isC R C k → σ 52 0 k = if sh (pr k) (pc k) = true then 1000000 else 1) :
    ∀ (d k n : Nat), k + d = 48 → n = cntP k (fun k => decide (isC R C k) && ((!sh (pr k) (pc k)) != m.testBit (ix C k))) → fx_E (fx_S Rf Cf nc) 116 10 [some (.inr (some (20, 0))), some (.inl (n : Int)), some (.inl (k : Int))] [] σ = some (some (.inl (dif R C m pr pc sh : Int)), σ) := by
  obtain ⟨⟨r1, r2⟩, ⟨w1, w2⟩, w3, ⟨w4, w5, w6⟩, ⟨w7, w8, w9⟩, w10, w11⟩ := id hK
  intro d
  induction d with
  | zero =>
    intro k n hk hn
    obtain rfl : k = 48 := by omega
    have e : dif R C m pr pc sh = n := by
      unfold dif
      rw [hn]
      exact cntP_cut (by omega) (fun k hk _ => by
        have : ¬ isC R C k := fun q => by have := isC_lt q; omega
        simp [this])
    rw [eX7_differs_10]
    simp (disch := omega) only [eX7_differs_0, eX7_differs_1, eX7_differs_3, eX7_differs_6, eX7_differs_7, eX7_differs_8, eX7_differs_9, eX7_differs_11, eX7_differs_13, eX7_differs_16, eX7_differs_17, eX7_differs_18, eX7_differs_19, eX7_differs_22, eX7_differs_25, eX7_differs_26, eX7_differs_27, eX7_differs_30, eX7_differs_31, eX7_differs_32, eX7_differs_33, eX7_differs_36, eX7_differs_37, eX7_differs_40, eX7_differs_43, eX7_differs_46, eX7_differs_47, eX7_differs_50, eX7_differs_51, eX7_differs_52, eX7_differs_55, eX7_differs_56, eX7_differs_57, eX7_differs_60, eX7_differs_61, eX7_differs_64, eX7_differs_65, eX7_differs_66, eX7_differs_67, eX7_differs_70, eX7_differs_73, eX7_differs_74, fx_bd_some, Option.toList_some, Option.toList_none, List.nil_append, List.cons_append, fx_uo, fx_ui, Int.toNat_natCast, ↓reduceIte, Int.reduceEq, Int.reduceLT, Int.reduceLE, Int.reduceNeg]
    rw [if_neg (by omega), e]
  | succ d ih =>
    intro k n hk hn
    have e1 := sp_isWished Rf Cf nc σ k R C (by omega) r1.2 r2.2 w1 w2
    have ih' := ih (k + 1) (n + (if (decide (isC R C k) && ((!sh (pr k) (pc k)) != m.testBit (ix C k))) = true then 1 else 0)) (by omega) (by rw [hn]; rfl)
    rw [eX7_differs_10]
    by_cases hc : isC R C k
    · rw [if_pos (by have := hc; unfold isC at this; omega)] at e1
      have e2 := hr k (by omega) hc
      have e3 := w3 k (by omega)
      have p1 : (isC R C k ∧ m.testBit (ix C k) = true) = (m.testBit (ix C k) = true) := propext ⟨fun q => q.2, fun q => ⟨hc, q⟩⟩
      simp only [p1] at e3
      rw [decide_eq_true hc, Bool.true_and] at ih'
      have e5 : ((k : Int).toNat) = k := by omega
      cases hs : sh (pr k) (pc k) with
      | true =>
        rw [hs, if_pos rfl] at e2
        rw [hs] at ih'
        have e4 := sp_dyed Rf Cf nc σ 1000000 mi st (by omega) (by omega) (by omega) (by omega) (by omega) (by omega) (by omega)
        rw [if_neg (by omega)] at e4
        cases ht : m.testBit (ix C k) with
        | true =>
          rw [ht] at e3 ih'
          simp at e3 ih'
          simp (disch := omega) only [eX7_differs_0, eX7_differs_1, eX7_differs_3, eX7_differs_6, eX7_differs_7, eX7_differs_8, eX7_differs_9, eX7_differs_11, eX7_differs_13, eX7_differs_16, eX7_differs_17, eX7_differs_18, eX7_differs_19, eX7_differs_22, eX7_differs_25, eX7_differs_26, eX7_differs_27, eX7_differs_30, eX7_differs_31, eX7_differs_32, eX7_differs_33, eX7_differs_36, eX7_differs_37, eX7_differs_40, eX7_differs_43, eX7_differs_46, eX7_differs_47, eX7_differs_50, eX7_differs_51, eX7_differs_52, eX7_differs_55, eX7_differs_56, eX7_differs_57, eX7_differs_60, eX7_differs_61, eX7_differs_64, eX7_differs_65, eX7_differs_66, eX7_differs_67, eX7_differs_70, eX7_differs_73, eX7_differs_74, fx_bd_some, Option.toList_some, Option.toList_none, List.nil_append, List.cons_append, fx_uo, fx_ui, Int.toNat_natCast, ↓reduceIte, Int.reduceEq, Int.reduceLT, Int.reduceLE, Int.reduceNeg, e1, e2, e3, w7, w8, e4, e5]
          rw [if_pos (by omega), show (k : Int) + 1 = ((k + 1 : Nat) : Int) by omega]
          exact ih'
        | false =>
          rw [ht] at e3 ih'
          simp at e3 ih'
          simp (disch := omega) only [eX7_differs_0, eX7_differs_1, eX7_differs_3, eX7_differs_6, eX7_differs_7, eX7_differs_8, eX7_differs_9, eX7_differs_11, eX7_differs_13, eX7_differs_16, eX7_differs_17, eX7_differs_18, eX7_differs_19, eX7_differs_22, eX7_differs_25, eX7_differs_26, eX7_differs_27, eX7_differs_30, eX7_differs_31, eX7_differs_32, eX7_differs_33, eX7_differs_36, eX7_differs_37, eX7_differs_40, eX7_differs_43, eX7_differs_46, eX7_differs_47, eX7_differs_50, eX7_differs_51, eX7_differs_52, eX7_differs_55, eX7_differs_56, eX7_differs_57, eX7_differs_60, eX7_differs_61, eX7_differs_64, eX7_differs_65, eX7_differs_66, eX7_differs_67, eX7_differs_70, eX7_differs_73, eX7_differs_74, fx_bd_some, Option.toList_some, Option.toList_none, List.nil_append, List.cons_append, fx_uo, fx_ui, Int.toNat_natCast, ↓reduceIte, Int.reduceEq, Int.reduceLT, Int.reduceLE, Int.reduceNeg, e1, e2, e3, w7, w8, e4, e5]
          rw [if_pos (by omega), show (k : Int) + 1 = ((k + 1 : Nat) : Int) by omega]
          simpa using ih'
      | false =>
        rw [hs, if_neg (by simp)] at e2
        rw [hs] at ih'
        have e4 := sp_dyed Rf Cf nc σ 1 mi st (by omega) (by omega) (by omega) (by omega) (by omega) (by omega) (by omega)
        rw [show (1 : Int) - 1 = 0 by omega, Int.zero_ediv, if_pos (by omega), show st - 0 = st by omega] at e4
        cases ht : m.testBit (ix C k) with
        | true =>
          rw [ht] at e3 ih'
          simp at e3 ih'
          simp (disch := omega) only [eX7_differs_0, eX7_differs_1, eX7_differs_3, eX7_differs_6, eX7_differs_7, eX7_differs_8, eX7_differs_9, eX7_differs_11, eX7_differs_13, eX7_differs_16, eX7_differs_17, eX7_differs_18, eX7_differs_19, eX7_differs_22, eX7_differs_25, eX7_differs_26, eX7_differs_27, eX7_differs_30, eX7_differs_31, eX7_differs_32, eX7_differs_33, eX7_differs_36, eX7_differs_37, eX7_differs_40, eX7_differs_43, eX7_differs_46, eX7_differs_47, eX7_differs_50, eX7_differs_51, eX7_differs_52, eX7_differs_55, eX7_differs_56, eX7_differs_57, eX7_differs_60, eX7_differs_61, eX7_differs_64, eX7_differs_65, eX7_differs_66, eX7_differs_67, eX7_differs_70, eX7_differs_73, eX7_differs_74, fx_bd_some, Option.toList_some, Option.toList_none, List.nil_append, List.cons_append, fx_uo, fx_ui, Int.toNat_natCast, ↓reduceIte, Int.reduceEq, Int.reduceLT, Int.reduceLE, Int.reduceNeg, e1, e2, e3, w7, w8, e4, e5]
          rw [if_pos (by omega), if_pos (by omega), show (k : Int) + 1 = ((k + 1 : Nat) : Int) by omega]
          simpa using ih'
        | false =>
          rw [ht] at e3 ih'
          simp at e3 ih'
          simp (disch := omega) only [eX7_differs_0, eX7_differs_1, eX7_differs_3, eX7_differs_6, eX7_differs_7, eX7_differs_8, eX7_differs_9, eX7_differs_11, eX7_differs_13, eX7_differs_16, eX7_differs_17, eX7_differs_18, eX7_differs_19, eX7_differs_22, eX7_differs_25, eX7_differs_26, eX7_differs_27, eX7_differs_30, eX7_differs_31, eX7_differs_32, eX7_differs_33, eX7_differs_36, eX7_differs_37, eX7_differs_40, eX7_differs_43, eX7_differs_46, eX7_differs_47, eX7_differs_50, eX7_differs_51, eX7_differs_52, eX7_differs_55, eX7_differs_56, eX7_differs_57, eX7_differs_60, eX7_differs_61, eX7_differs_64, eX7_differs_65, eX7_differs_66, eX7_differs_67, eX7_differs_70, eX7_differs_73, eX7_differs_74, fx_bd_some, Option.toList_some, Option.toList_none, List.nil_append, List.cons_append, fx_uo, fx_ui, Int.toNat_natCast, ↓reduceIte, Int.reduceEq, Int.reduceLT, Int.reduceLE, Int.reduceNeg, e1, e2, e3, w7, w8, e4, e5]
          rw [if_pos (by omega), if_pos (by omega), show (k : Int) + 1 = ((k + 1 : Nat) : Int) by omega]
          exact ih'
    · rw [if_neg (by unfold isC at hc; omega)] at e1
      rw [decide_eq_false hc, Bool.false_and, if_neg (by simp)] at ih'
      simp (disch := omega) only [eX7_differs_0, eX7_differs_1, eX7_differs_3, eX7_differs_6, eX7_differs_7, eX7_differs_8, eX7_differs_9, eX7_differs_11, eX7_differs_13, eX7_differs_16, eX7_differs_17, eX7_differs_18, eX7_differs_19, eX7_differs_22, eX7_differs_25, eX7_differs_26, eX7_differs_27, eX7_differs_30, eX7_differs_31, eX7_differs_32, eX7_differs_33, eX7_differs_36, eX7_differs_37, eX7_differs_40, eX7_differs_43, eX7_differs_46, eX7_differs_47, eX7_differs_50, eX7_differs_51, eX7_differs_52, eX7_differs_55, eX7_differs_56, eX7_differs_57, eX7_differs_60, eX7_differs_61, eX7_differs_64, eX7_differs_65, eX7_differs_66, eX7_differs_67, eX7_differs_70, eX7_differs_73, eX7_differs_74, fx_bd_some, Option.toList_some, Option.toList_none, List.nil_append, List.cons_append, fx_uo, fx_ui, Int.toNat_natCast, ↓reduceIte, Int.reduceEq, Int.reduceLT, Int.reduceLE, Int.reduceNeg, e1]
      rw [if_pos (by omega), show (k : Int) + 1 = ((k + 1 : Nat) : Int) by omega]
      simpa using ih'
theorem sp_differs (Rf Cf : Nat → Nat) (nc : Nat) {R C m br bc b : Nat} {mi st : Int} {pr pc ph : Nat → Nat} {σ : fx_M} (hK : MK R C m mi st σ) (hB : BW R C br bc pr pc ph) (hk : okS R C br bc pr pc ph) (hM : MB 6 R C br bc pr pc ph σ) (hMo : MBo 6 b σ) :
    ∃ σ', fx_Ca (fx_S Rf Cf nc) 116 [.inr (some (20, 0))] σ = some (some (.inl (dif R C m pr pc (shB 6 b σ) : Int)), σ') ∧ ∀ o g x, ¬ (g = 0 ∧ (o = 50 ∨ o = 51 ∨ o = 52)) → σ' o g x = σ o g x := by
  obtain ⟨⟨r1, r2⟩, ⟨w1, w2⟩, w3, ⟨w4, w5, w6⟩, ⟨w7, w8, w9⟩, w10, w11⟩ := id hK
  obtain ⟨σ1, D, a1, a2, a3, a4⟩ := sp_findReach Rf Cf nc (c := 6) (so := 0) (by omega) hB (by omega) (by omega) (Or.inl rfl) hM hMo rfl rfl w9
  have hu := Dist_uni w4.1 w5.1 a3 (okS_dist hk (shB 6 b σ) w4.1 w5.1)
  have e := df_lp Rf Cf nc (pr := pr) (pc := pc) (sh := shB 6 b σ) (hK.of (σ' := σ1) (fun o x q => a2 _ _ _ (by omega))) (fun k hk hkc => by
    rw [a4 k hk hkc, if_neg (by omega), hu k hk hkc]) 48 0 0 (by omega) rfl
  rw [ic0] at e
  refine ⟨σ1, ?_, a2⟩
  rw [entX7_differs]
  have c6 : ((6 : Nat) : Int) = 6 := rfl
  rw [c6] at a1
  simp only [eX7_differs_0, eX7_differs_1, eX7_differs_3, eX7_differs_6, eX7_differs_7, eX7_differs_8, eX7_differs_9, eX7_differs_11, eX7_differs_13, eX7_differs_16, eX7_differs_17, eX7_differs_18, eX7_differs_19, eX7_differs_22, eX7_differs_25, eX7_differs_26, eX7_differs_27, eX7_differs_30, eX7_differs_31, eX7_differs_32, eX7_differs_33, eX7_differs_36, eX7_differs_37, eX7_differs_40, eX7_differs_43, eX7_differs_46, eX7_differs_47, eX7_differs_50, eX7_differs_51, eX7_differs_52, eX7_differs_55, eX7_differs_56, eX7_differs_57, eX7_differs_60, eX7_differs_61, eX7_differs_64, eX7_differs_65, eX7_differs_66, eX7_differs_67, eX7_differs_70, eX7_differs_73, eX7_differs_74, fx_bd_some, Option.toList_some, Option.toList_none, List.nil_append, List.cons_append, fx_uo, fx_ui, Int.toNat_natCast, ↓reduceIte, Int.reduceEq, Int.reduceLT, Int.reduceLE, Int.reduceNeg, a1]
  exact e
theorem sp_meets (Rf Cf : Nat → Nat) (nc : Nat) {R C m br bc b l : Nat} {mi st : Int} {pr pc ph : Nat → Nat} {σ : fx_M} (hK : MK R C m mi st σ) (hB : BW R C br bc pr pc ph) (hk : okS R C br bc pr pc ph) (hM : MB 6 R C br bc pr pc ph σ) (hMo : MBo 6 b σ) (hl : l ≤ 1000000) (h39 : σ 20 0 39 = (l : Int)) :
    ∃ σ', fx_Ca (fx_S Rf Cf nc) 119 [.inr (some (20, 0))] σ = some (some (.inl (if dif R C m pr pc (shB 6 b σ) = 0 then 1 else 0)), σ') ∧ (∀ o g x, ¬ (g = 0 ∧ (o = 50 ∨ o = 51 ∨ o = 52 ∨ (o = 20 ∧ x = 39))) → σ' o g x = σ o g x) ∧ σ' 20 0 39 = ((min l (dif R C m pr pc (shB 6 b σ)) : Nat) : Int) := by
  obtain ⟨σ1, a1, a2⟩ := sp_differs Rf Cf nc hK hB hk hM hMo
  obtain ⟨D, hD⟩ : ∃ D, D = dif R C m pr pc (shB 6 b σ) := ⟨_, rfl⟩
  have hD1 : D ≤ 144 := by rw [hD]; exact cntP_le _ _
  rw [← hD] at a1 ⊢
  have h1 : σ1 20 0 39 = (l : Int) := by rw [a2 _ _ _ (by omega)]; exact h39
  refine ⟨fx_up σ1 20 0 39 ((min l D : Nat) : Int), ?_, fun o g x q => ?_, by rw [fx_ui, if_pos rfl]⟩
  · rw [entX7_meets]
    by_cases q : D < l
    · by_cases q0 : D = 0
      · simp (disch := omega) only [eX7_meets_0, eX7_meets_1, eX7_meets_4, eX7_meets_5, eX7_meets_6, eX7_meets_7, eX7_meets_8, eX7_meets_11, eX7_meets_14, eX7_meets_15, eX7_meets_18, eX7_meets_19, eX7_meets_22, eX7_meets_25, eX7_meets_26, eX7_meets_29, eX7_meets_30, eX7_meets_33, eX7_meets_34, fx_bd_some, Option.toList_some, Option.toList_none, List.nil_append, List.cons_append, fx_uo, fx_ui, Int.toNat_natCast, ↓reduceIte, Int.reduceEq, Int.reduceLT, Int.reduceLE, Int.reduceNeg, a1, h1]
        rw [if_pos (by omega), if_pos (by omega), if_pos q0, show min l D = D by omega]
      · simp (disch := omega) only [eX7_meets_0, eX7_meets_1, eX7_meets_4, eX7_meets_5, eX7_meets_6, eX7_meets_7, eX7_meets_8, eX7_meets_11, eX7_meets_14, eX7_meets_15, eX7_meets_18, eX7_meets_19, eX7_meets_22, eX7_meets_25, eX7_meets_26, eX7_meets_29, eX7_meets_30, eX7_meets_33, eX7_meets_34, fx_bd_some, Option.toList_some, Option.toList_none, List.nil_append, List.cons_append, fx_uo, fx_ui, Int.toNat_natCast, ↓reduceIte, Int.reduceEq, Int.reduceLT, Int.reduceLE, Int.reduceNeg, a1, h1]
        rw [if_pos (by omega), if_neg (by omega), if_neg q0, show min l D = D by omega]
    · by_cases q0 : D = 0
      · simp (disch := omega) only [eX7_meets_0, eX7_meets_1, eX7_meets_4, eX7_meets_5, eX7_meets_6, eX7_meets_7, eX7_meets_8, eX7_meets_11, eX7_meets_14, eX7_meets_15, eX7_meets_18, eX7_meets_19, eX7_meets_22, eX7_meets_25, eX7_meets_26, eX7_meets_29, eX7_meets_30, eX7_meets_33, eX7_meets_34, fx_bd_some, Option.toList_some, Option.toList_none, List.nil_append, List.cons_append, fx_uo, fx_ui, Int.toNat_natCast, ↓reduceIte, Int.reduceEq, Int.reduceLT, Int.reduceLE, Int.reduceNeg, a1, h1]
        rw [if_neg (by omega), if_pos (by omega), if_pos q0, show min l D = l by omega]
      · simp (disch := omega) only [eX7_meets_0, eX7_meets_1, eX7_meets_4, eX7_meets_5, eX7_meets_6, eX7_meets_7, eX7_meets_8, eX7_meets_11, eX7_meets_14, eX7_meets_15, eX7_meets_18, eX7_meets_19, eX7_meets_22, eX7_meets_25, eX7_meets_26, eX7_meets_29, eX7_meets_30, eX7_meets_33, eX7_meets_34, fx_bd_some, Option.toList_some, Option.toList_none, List.nil_append, List.cons_append, fx_uo, fx_ui, Int.toNat_natCast, ↓reduceIte, Int.reduceEq, Int.reduceLT, Int.reduceLE, Int.reduceNeg, a1, h1]
        rw [if_neg (by omega), if_neg (by omega), if_neg q0, show min l D = l by omega]
  · unfold fx_up
    rw [if_neg (by omega), a2 o g x (by omega)]
/-! folding the tried cloth -/
theorem sp_isFoldN (Rf Cf : Nat → Nat) (nc : Nat) (σ : fx_M) (g kd ln how br bc : Nat) (hg : g < 7) (hb : br ≤ 12) (hb2 : bc ≤ 12) (h1 : 1 ≤ br) (hk : kd < 3) (hln : ln < 100) (m3 : σ 37 0 g = br) (m4 : σ 38 0 g = bc) (hl : ¬ fLn br bc kd ln) (hh : how < 2) : ∃ v : Int, fx_Ca (fx_S Rf Cf nc) 85 [.inr (some (20, 0)), .inl (g : Int), .inl (kd : Int), .inl (ln : Int), .inl (how : Int)] σ = some (some (.inl v), σ) ∧ (v = -1 ∨ v = -3) := by
  refine ⟨_, sp_isFold Rf Cf nc σ g kd ln how hg (by omega) (by omega) (by omega) br bc hb hb2 m3 m4, ?_⟩
  unfold fLn at hl
  rcases (show kd = 0 ∨ kd = 1 ∨ kd = 2 by omega) with rfl | rfl | rfl
  · rw [if_neg (by omega), if_neg (by omega), if_neg (by simp; omega)]; exact Or.inl rfl
  · rw [if_neg (by omega), if_neg (by omega), if_neg (by simp; omega)]; exact Or.inl rfl
  · rw [if_neg (by omega), if_pos (by omega)]
    by_cases q : ln = 0
    · rw [if_pos (by omega), if_neg (by omega)]; exact Or.inr rfl
    · rw [if_neg (by omega)]; exact Or.inl rfl
/-- the tried cloth lies so, no board on it -/
def TM (R C br bc : Nat) (pr pc ph : Nat → Nat) (σ : fx_M) : Prop := MB 6 R C br bc pr pc ph σ ∧ σ 42 0 6 = 0 ∧ BW R C br bc pr pc ph
theorem ft_yes (Rf Cf : Nat → Nat) (nc : Nat) {R C br bc : Nat} {pr pc ph : Nat → Nat} {σ : fx_M} (hR : R ≤ 4) (hC : C ≤ 4) (hM : TM R C br bc pr pc ph σ) (i many kd ln how : Nat) (hi : i < many) (hm : many ≤ 2) (t1 : σ 59 0 i = kd) (t2 : σ 60 0 i = ln) (t3 : σ 61 0 i = how) (hh : how < 2) (hl : fLn br bc kd ln) (u3 : Option fx_V) :
    ∃ σ' v3, fx_E (fx_S Rf Cf nc) 117 30 [some (.inr (some (20, 0))), some (.inl (many : Int)), some (.inl (i : Int)), u3] [] σ = fx_E (fx_S Rf Cf nc) 117 30 [some (.inr (some (20, 0))), some (.inl (many : Int)), some (.inl ((i + 1 : Nat) : Int)), v3] [] σ' ∧ (∀ o g x, ¬ (g = 0 ∧ (o = 53 ∨ o = 54 ∨ o = 55 ∨ ((o = 34 ∨ o = 35 ∨ o = 36) ∧ 864 ≤ x ∧ x < 1008) ∨ ((o = 37 ∨ o = 38 ∨ o = 39) ∧ x = 6))) → σ' o g x = σ o g x) ∧ TM R C (fBr R C kd ln pr pc) (fBc R C kd ln pr pc) (fPr R C kd ln pr pc) (fPc R C kd ln pr pc) (fPh R C kd ln how pr pc ph) σ' := by
  obtain ⟨hMB, h42, hB⟩ := hM
  obtain ⟨⟨b1, b2⟩, ⟨b3, b4⟩, ⟨b5, b6⟩, ⟨b7, b8⟩, b9, b10, b11⟩ := id hB
  obtain ⟨hkd, hln⟩ := fLn_lt hl (by omega) (by omega)
  have c6 : ((6 : Nat) : Int) = 6 := rfl
  have e1 := sp_isFoldY Rf Cf nc σ 6 kd ln how br bc (by omega) (by omega) (by omega) hMB.2.2.1 hMB.2.2.2.1 hl hh
  obtain ⟨σ1, a1, a2, a3⟩ := sp_tryFold Rf Cf nc (c := 6) (by omega) hB hMB kd ln how hkd hln hh
  obtain ⟨f1, f2, f3, f4, f5⟩ := f_bds hB hl
  obtain ⟨σ2, d1, d2, d3, d4, d5, d6⟩ := sp_keepFold Rf Cf nc (c := 6) (by omega) b2 b4 (σ := σ1) (by rw [a2 _ _ _ (by omega)]; exact hMB.1) (by rw [a2 _ _ _ (by omega)]; exact hMB.2.1) (nR kd ln pr pc) (nC kd ln pr pc) (fun k hk hkc => by
    obtain ⟨p1, p2, p3⟩ := a3 k hk hkc
    have w := b9 k hk hkc
    have w1 := nR_bd (kd := kd) (pr := pr) (pc := pc) (k := k) hln (by omega) (by omega)
    have w2 := nC_bd (kd := kd) (pr := pr) (pc := pc) (k := k) hln (by omega) (by omega)
    exact ⟨p1, p2, w1.1, w1.2, w2.1, w2.2⟩) _ _ _ _ rfl rfl rfl rfl
  refine ⟨σ2, some (.inl (thk R C kd ln pr pc (12 * R) : Nat)), ?_, fun o g x q => by rw [d2 o g x (by omega) (by omega), a2 o g x (by omega)], ⟨?_, ?_, ?_, ?_, fun k hk hkc => ?_⟩, by rw [d2 _ _ _ (by omega) (by omega), a2 _ _ _ (by omega)]; exact h42, f_BWs hB hR hC hl hh⟩
  · rw [c6] at e1 a1 d1
    rw [eX7_foldTried_30]
    simp (disch := omega) only [eX7_foldTried_0, eX7_foldTried_1, eX7_foldTried_4, eX7_foldTried_6, eX7_foldTried_7, eX7_foldTried_10, eX7_foldTried_11, eX7_foldTried_12, eX7_foldTried_15, eX7_foldTried_17, eX7_foldTried_18, eX7_foldTried_21, eX7_foldTried_22, eX7_foldTried_23, eX7_foldTried_25, eX7_foldTried_28, eX7_foldTried_29, eX7_foldTried_31, eX7_foldTried_32, eX7_foldTried_35, eX7_foldTried_36, eX7_foldTried_38, eX7_foldTried_39, eX7_foldTried_42, eX7_foldTried_43, eX7_foldTried_44, eX7_foldTried_45, eX7_foldTried_48, eX7_foldTried_49, eX7_foldTried_50, eX7_foldTried_51, eX7_foldTried_54, eX7_foldTried_55, eX7_foldTried_56, eX7_foldTried_59, eX7_foldTried_62, eX7_foldTried_63, eX7_foldTried_64, eX7_foldTried_65, eX7_foldTried_67, eX7_foldTried_68, eX7_foldTried_71, eX7_foldTried_72, eX7_foldTried_73, eX7_foldTried_74, eX7_foldTried_77, eX7_foldTried_78, eX7_foldTried_79, eX7_foldTried_80, eX7_foldTried_83, eX7_foldTried_84, eX7_foldTried_85, eX7_foldTried_88, eX7_foldTried_89, eX7_foldTried_90, eX7_foldTried_92, eX7_foldTried_95, eX7_foldTried_98, eX7_foldTried_101, eX7_foldTried_102, fx_bd_some, Option.toList_some, Option.toList_none, List.nil_append, List.cons_append, fx_uo, fx_ui, Int.toNat_natCast, ↓reduceIte, Int.reduceEq, Int.reduceLT, Int.reduceLE, Int.reduceNeg, t1, t2, t3, e1, a1, d1]
    rw [if_pos (by omega), show (i : Int) + 1 = ((i + 1 : Nat) : Int) by omega]
  · rw [d2 _ _ _ (by omega) (by omega), a2 _ _ _ (by omega)]; exact hMB.1
  · rw [d2 _ _ _ (by omega) (by omega), a2 _ _ _ (by omega)]; exact hMB.2.1
  · rw [d4]
    show xR R C kd ln pr pc - mR R C kd ln pr pc + 1 = _
    unfold fBr
    omega
  · rw [d5]
    show xC R C kd ln pr pc - mC R C kd ln pr pc + 1 = _
    unfold fBc
    omega
  · obtain ⟨p1, p2, p3⟩ := d3 k hk hkc
    obtain ⟨q1, q2, q3⟩ := a3 k hk hkc
    obtain ⟨g1, g2, g3, g4⟩ := f1 k hk hkc
    have hn := nH_nn (how := how) hB hl hk hkc
    refine ⟨?_, ?_, ?_⟩
    · rw [p1]
      show nR kd ln pr pc k - mR R C kd ln pr pc = _
      unfold fPr
      omega
    · rw [p2]
      show nC kd ln pr pc k - mC R C kd ln pr pc = _
      unfold fPc
      omega
    · rw [p3, q3]
      unfold fPh
      omega
theorem ft_no (Rf Cf : Nat → Nat) (nc : Nat) {R C br bc : Nat} {pr pc ph : Nat → Nat} {σ : fx_M} (hM : TM R C br bc pr pc ph σ) (i many kd ln how : Nat) (hi : i < many) (hm : many ≤ 2) (t1 : σ 59 0 i = kd) (t2 : σ 60 0 i = ln) (t3 : σ 61 0 i = how) (hkd : kd < 3) (hln : ln < 100) (hh : how < 2) (hl : ¬ fLn br bc kd ln) (u3 : Option fx_V) :
    fx_E (fx_S Rf Cf nc) 117 30 [some (.inr (some (20, 0))), some (.inl (many : Int)), some (.inl (i : Int)), u3] [] σ = some (some (.inl 0), σ) := by
  obtain ⟨hMB, h42, hB⟩ := hM
  obtain ⟨⟨b1, b2⟩, ⟨b3, b4⟩, ⟨b5, b6⟩, ⟨b7, b8⟩, b9, b10, b11⟩ := id hB
  have c6 : ((6 : Nat) : Int) = 6 := rfl
  obtain ⟨v, e1, hv⟩ := sp_isFoldN Rf Cf nc σ 6 kd ln how br bc (by omega) (by omega) (by omega) b5 hkd hln hMB.2.2.1 hMB.2.2.2.1 hl hh
  rw [c6] at e1
  rw [eX7_foldTried_30]
  simp (disch := omega) only [eX7_foldTried_0, eX7_foldTried_1, eX7_foldTried_4, eX7_foldTried_6, eX7_foldTried_7, eX7_foldTried_10, eX7_foldTried_11, eX7_foldTried_12, eX7_foldTried_15, eX7_foldTried_17, eX7_foldTried_18, eX7_foldTried_21, eX7_foldTried_22, eX7_foldTried_23, eX7_foldTried_25, eX7_foldTried_28, eX7_foldTried_29, eX7_foldTried_31, eX7_foldTried_32, eX7_foldTried_35, eX7_foldTried_36, eX7_foldTried_38, eX7_foldTried_39, eX7_foldTried_42, eX7_foldTried_43, eX7_foldTried_44, eX7_foldTried_45, eX7_foldTried_48, eX7_foldTried_49, eX7_foldTried_50, eX7_foldTried_51, eX7_foldTried_54, eX7_foldTried_55, eX7_foldTried_56, eX7_foldTried_59, eX7_foldTried_62, eX7_foldTried_63, eX7_foldTried_64, eX7_foldTried_65, eX7_foldTried_67, eX7_foldTried_68, eX7_foldTried_71, eX7_foldTried_72, eX7_foldTried_73, eX7_foldTried_74, eX7_foldTried_77, eX7_foldTried_78, eX7_foldTried_79, eX7_foldTried_80, eX7_foldTried_83, eX7_foldTried_84, eX7_foldTried_85, eX7_foldTried_88, eX7_foldTried_89, eX7_foldTried_90, eX7_foldTried_92, eX7_foldTried_95, eX7_foldTried_98, eX7_foldTried_101, eX7_foldTried_102, fx_bd_some, Option.toList_some, Option.toList_none, List.nil_append, List.cons_append, fx_uo, fx_ui, Int.toNat_natCast, ↓reduceIte, Int.reduceEq, Int.reduceLT, Int.reduceLE, Int.reduceNeg, t1, t2, t3, e1]
  rw [if_pos (by omega), if_neg (by omega)]
theorem ft_end (Rf Cf : Nat → Nat) (nc : Nat) (σ : fx_M) (many : Nat) (hm : many ≤ 2) (u3 : Option fx_V) :
    fx_E (fx_S Rf Cf nc) 117 30 [some (.inr (some (20, 0))), some (.inl (many : Int)), some (.inl (many : Int)), u3] [] σ = some (some (.inl 1), σ) := by
  rw [eX7_foldTried_30]
  simp (disch := omega) only [eX7_foldTried_0, eX7_foldTried_1, eX7_foldTried_4, eX7_foldTried_6, eX7_foldTried_7, eX7_foldTried_10, eX7_foldTried_11, eX7_foldTried_12, eX7_foldTried_15, eX7_foldTried_17, eX7_foldTried_18, eX7_foldTried_21, eX7_foldTried_22, eX7_foldTried_23, eX7_foldTried_25, eX7_foldTried_28, eX7_foldTried_29, eX7_foldTried_31, eX7_foldTried_32, eX7_foldTried_35, eX7_foldTried_36, eX7_foldTried_38, eX7_foldTried_39, eX7_foldTried_42, eX7_foldTried_43, eX7_foldTried_44, eX7_foldTried_45, eX7_foldTried_48, eX7_foldTried_49, eX7_foldTried_50, eX7_foldTried_51, eX7_foldTried_54, eX7_foldTried_55, eX7_foldTried_56, eX7_foldTried_59, eX7_foldTried_62, eX7_foldTried_63, eX7_foldTried_64, eX7_foldTried_65, eX7_foldTried_67, eX7_foldTried_68, eX7_foldTried_71, eX7_foldTried_72, eX7_foldTried_73, eX7_foldTried_74, eX7_foldTried_77, eX7_foldTried_78, eX7_foldTried_79, eX7_foldTried_80, eX7_foldTried_83, eX7_foldTried_84, eX7_foldTried_85, eX7_foldTried_88, eX7_foldTried_89, eX7_foldTried_90, eX7_foldTried_92, eX7_foldTried_95, eX7_foldTried_98, eX7_foldTried_101, eX7_foldTried_102, fx_bd_some, Option.toList_some, Option.toList_none, List.nil_append, List.cons_append, fx_uo, fx_ui, Int.toNat_natCast, ↓reduceIte, Int.reduceEq, Int.reduceLT, Int.reduceLE, Int.reduceNeg]
  rw [if_neg (by omega)]
theorem ft_begin (Rf Cf : Nat → Nat) (nc : Nat) {R C : Nat} (hR : 1 ≤ R ∧ R ≤ 4) (hC : 1 ≤ C ∧ C ≤ 4) {σ : fx_M} (w1 : σ 20 0 26 = R) (w2 : σ 20 0 27 = C) (many : Nat) :
    ∃ σ', fx_Ca (fx_S Rf Cf nc) 117 [.inr (some (20, 0)), .inl (many : Int)] σ = fx_E (fx_S Rf Cf nc) 117 30 [some (.inr (some (20, 0))), some (.inl (many : Int)), some (.inl 0), none] [] σ' ∧ (∀ o g x, ¬ (g = 0 ∧ (((o = 34 ∨ o = 35 ∨ o = 36) ∧ 864 ≤ x ∧ x < 1008) ∨ ((o = 30 ∨ o = 31 ∨ o = 37 ∨ o = 38 ∨ o = 39 ∨ o = 42) ∧ x = 6))) → σ' o g x = σ o g x) ∧ TM R C R C oR oC oH σ' := by
  obtain ⟨τ, hτ⟩ : ∃ τ, τ = fx_up (fx_up σ 30 0 6 R) 31 0 6 C := ⟨_, rfl⟩
  have e := sp_unfold Rf Cf nc 6 (by omega) τ
  have c6 : ((6 : Nat) : Int) = 6 := rfl
  rw [c6] at e
  have t30 : τ 30 0 6 = R := by rw [hτ, fx_uo (by omega), fx_ui, if_pos rfl]
  have t31 : τ 31 0 6 = C := by rw [hτ, fx_ui, if_pos rfl]
  have fτ : ∀ o g x, ¬ (g = 0 ∧ (o = 30 ∨ o = 31) ∧ x = 6) → τ o g x = σ o g x := fun o g x q => by
    rw [hτ]; unfold fx_up
    rw [if_neg (by omega), if_neg (by omega)]
  refine ⟨m_unf 6 0 τ, ?_, fun o g x q => ?_, ⟨?_, ?_, ?_, ?_, fun k hk hkc => ⟨?_, ?_, ?_⟩⟩, ?_, BW_open hR.1 (by omega) hC.1 (by omega)⟩
  · rw [entX7_foldTried]
    simp (disch := omega) only [eX7_foldTried_0, eX7_foldTried_1, eX7_foldTried_4, eX7_foldTried_6, eX7_foldTried_7, eX7_foldTried_10, eX7_foldTried_11, eX7_foldTried_12, eX7_foldTried_15, eX7_foldTried_17, eX7_foldTried_18, eX7_foldTried_21, eX7_foldTried_22, eX7_foldTried_23, eX7_foldTried_25, eX7_foldTried_28, eX7_foldTried_29, eX7_foldTried_31, eX7_foldTried_32, eX7_foldTried_35, eX7_foldTried_36, eX7_foldTried_38, eX7_foldTried_39, eX7_foldTried_42, eX7_foldTried_43, eX7_foldTried_44, eX7_foldTried_45, eX7_foldTried_48, eX7_foldTried_49, eX7_foldTried_50, eX7_foldTried_51, eX7_foldTried_54, eX7_foldTried_55, eX7_foldTried_56, eX7_foldTried_59, eX7_foldTried_62, eX7_foldTried_63, eX7_foldTried_64, eX7_foldTried_65, eX7_foldTried_67, eX7_foldTried_68, eX7_foldTried_71, eX7_foldTried_72, eX7_foldTried_73, eX7_foldTried_74, eX7_foldTried_77, eX7_foldTried_78, eX7_foldTried_79, eX7_foldTried_80, eX7_foldTried_83, eX7_foldTried_84, eX7_foldTried_85, eX7_foldTried_88, eX7_foldTried_89, eX7_foldTried_90, eX7_foldTried_92, eX7_foldTried_95, eX7_foldTried_98, eX7_foldTried_101, eX7_foldTried_102, fx_bd_some, Option.toList_some, Option.toList_none, List.nil_append, List.cons_append, fx_uo, fx_ui, Int.toNat_natCast, ↓reduceIte, Int.reduceEq, Int.reduceLT, Int.reduceLE, Int.reduceNeg, w1, w2, Int.reduceToNat]
    try simp only [fx_uo (show ¬ 20 = 30 by omega), w2]
    rw [← hτ, e]
    simp only [eX7_foldTried_0, eX7_foldTried_1, eX7_foldTried_4, eX7_foldTried_6, eX7_foldTried_7, eX7_foldTried_10, eX7_foldTried_11, eX7_foldTried_12, eX7_foldTried_15, eX7_foldTried_17, eX7_foldTried_18, eX7_foldTried_21, eX7_foldTried_22, eX7_foldTried_23, eX7_foldTried_25, eX7_foldTried_28, eX7_foldTried_29, eX7_foldTried_31, eX7_foldTried_32, eX7_foldTried_35, eX7_foldTried_36, eX7_foldTried_38, eX7_foldTried_39, eX7_foldTried_42, eX7_foldTried_43, eX7_foldTried_44, eX7_foldTried_45, eX7_foldTried_48, eX7_foldTried_49, eX7_foldTried_50, eX7_foldTried_51, eX7_foldTried_54, eX7_foldTried_55, eX7_foldTried_56, eX7_foldTried_59, eX7_foldTried_62, eX7_foldTried_63, eX7_foldTried_64, eX7_foldTried_65, eX7_foldTried_67, eX7_foldTried_68, eX7_foldTried_71, eX7_foldTried_72, eX7_foldTried_73, eX7_foldTried_74, eX7_foldTried_77, eX7_foldTried_78, eX7_foldTried_79, eX7_foldTried_80, eX7_foldTried_83, eX7_foldTried_84, eX7_foldTried_85, eX7_foldTried_88, eX7_foldTried_89, eX7_foldTried_90, eX7_foldTried_92, eX7_foldTried_95, eX7_foldTried_98, eX7_foldTried_101, eX7_foldTried_102, fx_bd_some, Option.toList_some, Option.toList_none, List.nil_append, List.cons_append, fx_uo, fx_ui, Int.toNat_natCast, ↓reduceIte, Int.reduceEq, Int.reduceLT, Int.reduceLE, Int.reduceNeg]
  · unfold m_unf
    rw [if_neg (by omega), if_neg (by omega), if_neg (by omega), if_neg (by omega), if_neg (by omega), if_neg (by omega), fτ o g x (by omega)]
  · unfold m_unf
    rw [if_neg (by omega), if_neg (by omega), if_neg (by omega), if_neg (by omega), if_neg (by omega), if_neg (by omega), t30]
  · unfold m_unf
    rw [if_neg (by omega), if_neg (by omega), if_neg (by omega), if_neg (by omega), if_neg (by omega), if_neg (by omega), t31]
  · unfold m_unf
    rw [if_neg (by omega), if_neg (by omega), if_neg (by omega), if_pos (by omega), t30]
  · unfold m_unf
    rw [if_neg (by omega), if_neg (by omega), if_neg (by omega), if_neg (by omega), if_pos (by omega), t31]
  · unfold m_unf
    rw [if_pos (by omega), show 144 * 6 + k - 144 * 6 = k by omega]; rfl
  · unfold m_unf
    rw [if_neg (by omega), if_pos (by omega), show 144 * 6 + k - 144 * 6 = k by omega]; rfl
  · unfold m_unf
    rw [if_neg (by omega), if_neg (by omega), if_pos (by omega)]; rfl
  · unfold m_unf
    rw [if_neg (by omega), if_neg (by omega), if_neg (by omega), if_neg (by omega), if_neg (by omega), if_pos (by omega)]
