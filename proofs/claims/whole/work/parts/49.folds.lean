/-! the class's search: folds -/
def ftv (fs : List (Nat × Nat × Nat)) (i j : Nat) : Int := match fs[i]? with
  | some f => if j = 0 then (f.1 : Int) else if j = 1 then (f.2.1 : Int) else if j = 2 then (f.2.2 : Int) else -1
  | none => -1
/-- the tried way has these folds -/
def FT (σ : fx_M) (fs : List (Nat × Nat × Nat)) : Prop := σ 10 0 1 = (fs.length : Int) ∧ ∀ i j, i < 2 → j < 4 → σ 11 0 (4 * i + j) = ftv fs i j
theorem sp_setFold (Rf Cf : Nat → Nat) (nc : Nat) (σ : fx_M) (i : Nat) (hi : i < 2) (a b c : Int) : fx_Ca (fx_S Rf Cf nc) 38 [.inr (some (10, 0)), .inl (i : Int), .inl a, .inl b, .inl c] σ = some (none, fx_up (fx_up (fx_up (fx_up σ 11 0 (4 * i) a) 11 0 (4 * i + 1) b) 11 0 (4 * i + 2) c) 10 0 1 ((i : Int) + 1)) := by
  have i1 : ((i : Int) * 4).toNat = 4 * i := by omega
  have i2 : ((i : Int) * 4 + 1).toNat = 4 * i + 1 := by omega
  have i3 : ((i : Int) * 4 + 2).toNat = 4 * i + 2 := by omega
  rw [entX4_setFold]
  simp (disch := omega) only [eX4_setFold_0, eX4_setFold_1, eX4_setFold_4, eX4_setFold_5, eX4_setFold_6, eX4_setFold_7, eX4_setFold_8, eX4_setFold_9, eX4_setFold_10, eX4_setFold_13, eX4_setFold_14, eX4_setFold_15, eX4_setFold_16, eX4_setFold_17, eX4_setFold_18, eX4_setFold_19, eX4_setFold_20, eX4_setFold_21, eX4_setFold_24, eX4_setFold_25, eX4_setFold_26, eX4_setFold_27, eX4_setFold_28, eX4_setFold_29, eX4_setFold_31, eX4_setFold_32, eX4_setFold_33, eX4_setFold_34, eX4_setFold_35, eX4_setFold_36, eX4_setFold_39, fx_bd_some, Option.toList_some, Option.toList_none, List.nil_append, List.cons_append, fx_uo, fx_ui, Int.toNat_natCast, ↓reduceIte, Int.reduceEq, Int.reduceLT, Int.reduceLE, Int.reduceNeg, i1, i2, i3]
theorem fi_no (Rf Cf : Nat → Nat) (nc : Nat) {g h R C br bc : Nat} {pr pc ph : Nat → Nat} {σ : fx_M} (hB : BW R C br bc pr pc ph) (hC : CB Rf Cf g R C br bc pr pc ph σ) (i v : Nat) (hv : v < 12) (hl : ¬ fLn br bc (v / 4) (v % 4)) :
    fx_Ca (fx_S Rf Cf nc) 26 [.inr (some (7, 0)), .inr (some (15, h)), .inr (some (15, g)), .inl (i : Int), .inl (v : Int)] σ = some (some (.inl 0), σ) := by
  obtain ⟨⟨b1, b2⟩, ⟨b3, b4⟩, ⟨b5, b6⟩, ⟨b7, b8⟩, b9, b10, b11⟩ := id hB
  have e1 := sp_hasLine Rf Cf nc σ g ((v / 4 : Nat) : Int) ((v % 4 : Nat) : Int) (by omega) (by omega) br bc (by omega) (by omega) hC.2.2.1 hC.2.2.2.1
  have e2 := sp_canSlant Rf Cf nc σ g br bc (by omega) (by omega) hC.2.2.1 hC.2.2.2.1
  have d1 : (v : Int) / 4 = ((v / 4 : Nat) : Int) := by omega
  have d2 : (v : Int) % 4 = ((v % 4 : Nat) : Int) := by omega
  unfold fLn at hl
  rw [entX2_foldInto]
  by_cases q : ((((v / 4 : Nat) : Int) = 0 ∧ 1 ≤ ((v % 4 : Nat) : Int) ∧ ((v % 4 : Nat) : Int) < bc) ∨ (((v / 4 : Nat) : Int) = 1 ∧ 1 ≤ ((v % 4 : Nat) : Int) ∧ ((v % 4 : Nat) : Int) < br) ∨ (((v / 4 : Nat) : Int) = 2 ∧ ((v % 4 : Nat) : Int) = 0))
  · rw [if_pos q] at e1
    have q2 : v / 4 = 2 ∧ v % 4 = 0 ∧ ¬ (br = bc ∧ 1 < br) := by omega
    rw [if_neg q2.2.2] at e2
    simp (disch := omega) only [eX2_foldInto_0, eX2_foldInto_2, eX2_foldInto_3, eX2_foldInto_4, eX2_foldInto_6, eX2_foldInto_8, eX2_foldInto_9, eX2_foldInto_10, eX2_foldInto_12, eX2_foldInto_13, eX2_foldInto_15, eX2_foldInto_17, eX2_foldInto_20, eX2_foldInto_23, eX2_foldInto_25, eX2_foldInto_26, eX2_foldInto_29, eX2_foldInto_30, eX2_foldInto_33, eX2_foldInto_36, eX2_foldInto_37, eX2_foldInto_38, eX2_foldInto_39, eX2_foldInto_40, eX2_foldInto_43, eX2_foldInto_44, eX2_foldInto_46, eX2_foldInto_48, eX2_foldInto_49, eX2_foldInto_52, eX2_foldInto_53, eX2_foldInto_56, eX2_foldInto_57, eX2_foldInto_59, eX2_foldInto_61, eX2_foldInto_62, eX2_foldInto_65, eX2_foldInto_66, fx_bd_some, Option.toList_some, Option.toList_none, List.nil_append, List.cons_append, fx_uo, fx_ui, Int.toNat_natCast, ↓reduceIte, Int.reduceEq, Int.reduceLT, Int.reduceLE, Int.reduceNeg, d1, d2, e1, e2]
    rw [if_pos (by omega)]
  · rw [if_neg q] at e1
    simp (disch := omega) only [eX2_foldInto_0, eX2_foldInto_2, eX2_foldInto_3, eX2_foldInto_4, eX2_foldInto_6, eX2_foldInto_8, eX2_foldInto_9, eX2_foldInto_10, eX2_foldInto_12, eX2_foldInto_13, eX2_foldInto_15, eX2_foldInto_17, eX2_foldInto_20, eX2_foldInto_23, eX2_foldInto_25, eX2_foldInto_26, eX2_foldInto_29, eX2_foldInto_30, eX2_foldInto_33, eX2_foldInto_36, eX2_foldInto_37, eX2_foldInto_38, eX2_foldInto_39, eX2_foldInto_40, eX2_foldInto_43, eX2_foldInto_44, eX2_foldInto_46, eX2_foldInto_48, eX2_foldInto_49, eX2_foldInto_52, eX2_foldInto_53, eX2_foldInto_56, eX2_foldInto_57, eX2_foldInto_59, eX2_foldInto_61, eX2_foldInto_62, eX2_foldInto_65, eX2_foldInto_66, fx_bd_some, Option.toList_some, Option.toList_none, List.nil_append, List.cons_append, fx_uo, fx_ui, Int.toNat_natCast, ↓reduceIte, Int.reduceEq, Int.reduceLT, Int.reduceLE, Int.reduceNeg, d1, d2, e1]
theorem fi_yes (Rf Cf : Nat → Nat) (nc : Nat) {g h R C br bc : Nat} {pr pc ph : Nat → Nat} {σ : fx_M} (hgh : h ≠ g) (hh : h = 7 ∨ h = 8) (hR : Rf h = Rf g) (hCf : Cf h = Cf g) (hB : BW R C br bc pr pc ph) (hC : CB Rf Cf g R C br bc pr pc ph σ) (i v : Nat) (hi : i < 2) (hv : v < 12) (hl : fLn br bc (v / 4) (v % 4)) :
    ∃ σ', fx_Ca (fx_S Rf Cf nc) 26 [.inr (some (7, 0)), .inr (some (15, h)), .inr (some (15, g)), .inl (i : Int), .inl (v : Int)] σ = some (some (.inl 1), σ') ∧ (∀ o k x, ¬ (k = h ∧ 15 ≤ o ∧ o ≤ 19) → ¬ (k = 0 ∧ o = 11 ∧ 4 * i ≤ x ∧ x < 4 * i + 3) → ¬ (k = 0 ∧ o = 10 ∧ x = 1) → σ' o k x = σ o k x) ∧ CB Rf Cf h R C (fBr R C (v / 4) (v % 4) pr pc) (fBc R C (v / 4) (v % 4) pr pc) (fPr R C (v / 4) (v % 4) pr pc) (fPc R C (v / 4) (v % 4) pr pc) (fPh R C (v / 4) (v % 4) 0 pr pc ph) σ' ∧ σ' 10 0 1 = (i : Int) + 1 ∧ σ' 11 0 (4 * i) = ((v / 4 : Nat) : Int) ∧ σ' 11 0 (4 * i + 1) = ((v % 4 : Nat) : Int) ∧ σ' 11 0 (4 * i + 2) = 0 := by
  obtain ⟨⟨b1, b2⟩, ⟨b3, b4⟩, ⟨b5, b6⟩, ⟨b7, b8⟩, b9, b10, b11⟩ := id hB
  have e1 := sp_hasLine Rf Cf nc σ g ((v / 4 : Nat) : Int) ((v % 4 : Nat) : Int) (by omega) (by omega) br bc (by omega) (by omega) hC.2.2.1 hC.2.2.2.1
  have e2 := sp_canSlant Rf Cf nc σ g br bc (by omega) (by omega) hC.2.2.1 hC.2.2.2.1
  have d1 : (v : Int) / 4 = ((v / 4 : Nat) : Int) := by omega
  have d2 : (v : Int) % 4 = ((v % 4 : Nat) : Int) := by omega
  obtain ⟨σ1, a1, a2, a3⟩ := sp_become Rf Cf nc (g := h) (h := g) hgh hR hCf hC
  obtain ⟨σ2, c1, c2, c3⟩ := sp_crease Rf Cf nc hB a3 (v / 4) (v % 4) 0 hl (by omega)
  rw [ic0] at c1
  have s := sp_setFold Rf Cf nc σ2 i hi ((v / 4 : Nat) : Int) ((v % 4 : Nat) : Int) 0
  obtain ⟨τ, hτ⟩ : ∃ τ, τ = fx_up (fx_up (fx_up (fx_up σ2 11 0 (4 * i) ((v / 4 : Nat) : Int)) 11 0 (4 * i + 1) ((v % 4 : Nat) : Int)) 11 0 (4 * i + 2) 0) 10 0 1 ((i : Int) + 1) := ⟨_, rfl⟩
  rw [← hτ] at s
  have fτ : ∀ o k x, ¬ (k = 0 ∧ o = 11 ∧ 4 * i ≤ x ∧ x < 4 * i + 3) → ¬ (k = 0 ∧ o = 10 ∧ x = 1) → τ o k x = σ2 o k x := fun o k x q1 q2 => by
    rw [hτ]; unfold fx_up
    rw [if_neg (by omega), if_neg (by omega), if_neg (by omega), if_neg (by omega)]
  refine ⟨τ, ?_, fun o k x q1 q2 q3 => by rw [fτ o k x q2 q3, c2 o k x q1, a2 o k x q1], c3.of (fun o x q1 q2 => fτ _ _ _ (by omega) (by omega)), ?_, ?_, ?_, ?_⟩
  · unfold fLn at hl
    rw [if_pos (by omega)] at e1
    rw [entX2_foldInto]
    by_cases q : v / 4 = 2
    · rw [if_pos (by omega)] at e2
      simp (disch := omega) only [eX2_foldInto_0, eX2_foldInto_2, eX2_foldInto_3, eX2_foldInto_4, eX2_foldInto_6, eX2_foldInto_8, eX2_foldInto_9, eX2_foldInto_10, eX2_foldInto_12, eX2_foldInto_13, eX2_foldInto_15, eX2_foldInto_17, eX2_foldInto_20, eX2_foldInto_23, eX2_foldInto_25, eX2_foldInto_26, eX2_foldInto_29, eX2_foldInto_30, eX2_foldInto_33, eX2_foldInto_36, eX2_foldInto_37, eX2_foldInto_38, eX2_foldInto_39, eX2_foldInto_40, eX2_foldInto_43, eX2_foldInto_44, eX2_foldInto_46, eX2_foldInto_48, eX2_foldInto_49, eX2_foldInto_52, eX2_foldInto_53, eX2_foldInto_56, eX2_foldInto_57, eX2_foldInto_59, eX2_foldInto_61, eX2_foldInto_62, eX2_foldInto_65, eX2_foldInto_66, fx_bd_some, Option.toList_some, Option.toList_none, List.nil_append, List.cons_append, fx_uo, fx_ui, Int.toNat_natCast, ↓reduceIte, Int.reduceEq, Int.reduceLT, Int.reduceLE, Int.reduceNeg, d1, d2, e1, e2, a1, c1, s]
      rw [if_pos (by omega)]
    · simp (disch := omega) only [eX2_foldInto_0, eX2_foldInto_2, eX2_foldInto_3, eX2_foldInto_4, eX2_foldInto_6, eX2_foldInto_8, eX2_foldInto_9, eX2_foldInto_10, eX2_foldInto_12, eX2_foldInto_13, eX2_foldInto_15, eX2_foldInto_17, eX2_foldInto_20, eX2_foldInto_23, eX2_foldInto_25, eX2_foldInto_26, eX2_foldInto_29, eX2_foldInto_30, eX2_foldInto_33, eX2_foldInto_36, eX2_foldInto_37, eX2_foldInto_38, eX2_foldInto_39, eX2_foldInto_40, eX2_foldInto_43, eX2_foldInto_44, eX2_foldInto_46, eX2_foldInto_48, eX2_foldInto_49, eX2_foldInto_52, eX2_foldInto_53, eX2_foldInto_56, eX2_foldInto_57, eX2_foldInto_59, eX2_foldInto_61, eX2_foldInto_62, eX2_foldInto_65, eX2_foldInto_66, fx_bd_some, Option.toList_some, Option.toList_none, List.nil_append, List.cons_append, fx_uo, fx_ui, Int.toNat_natCast, ↓reduceIte, Int.reduceEq, Int.reduceLT, Int.reduceLE, Int.reduceNeg, d1, d2, e1, a1, c1, s]
      rw [if_neg (by omega)]
  · rw [hτ, fx_ui, if_pos rfl]
  · rw [hτ, fx_uo (by omega), fx_ui, if_neg (by omega), fx_ui, if_neg (by omega), fx_ui, if_pos rfl]
  · rw [hτ, fx_uo (by omega), fx_ui, if_neg (by omega), fx_ui, if_pos rfl]
  · rw [hτ, fx_uo (by omega), fx_ui, if_pos rfl]
theorem bd0_lab {R C m br bc l : Nat} {pr pc : Nat → Nat} {fs : List (Nat × Nat × Nat)} {w : Wy} (hl : 0 < l) (h : (gsc l (bd0 R C m br bc pr pc fs 0)).2 = some w) : w.1 = fs ∧ w.2.isSome = true := by
  obtain ⟨x, y, a, b, -, -, -, -, -, -, -, e⟩ := bd0_mem.mp ((gsc_some _ l hl).2 w h)
  have : w = (fs, some (x, y, a, b)) := (Prod.ext_iff.mp e).2
  rw [this]
  exact ⟨rfl, rfl⟩
theorem vlF_lt {v : Nat} (h : v < 12) : vlF v = (v / 4, v % 4, 0) :: vlF (v + 1) := by unfold vlF; rw [rng_lt h]; rfl
theorem vlF_ge {v : Nat} (h : 12 ≤ v) : vlF v = [] := by unfold vlF; rw [rng_ge h]; rfl
/-- what stands while folds are tried -/
def TI (Rf Cf : Nat → Nat) (R C m : Nat) (σ : fx_M) : Prop := SK R C m σ ∧ CB Rf Cf 6 R C R C oR oC oH σ ∧ σ 11 0 3 = -1 ∧ σ 11 0 7 = -1
theorem SK.flat {R C m : Nat} {σ : fx_M} (h : SK R C m σ) : BW R C R C oR oC oH := BW_open h.1.1.1 (by have := h.1; omega) h.1.2.1 (by have := h.1; omega)
theorem tf1_lp (Rf Cf : Nat → Nat) (nc : Nat) {R C m : Nat} (h4 : I4 Rf Cf) :
    ∀ (d v l : Nat) (σ : fx_M) (u3 : Option fx_V), v + d = 12 → l ≤ 1000 → TI Rf Cf R C m σ → (∀ j, j < 3 → σ 11 0 (4 + j) = -1) → σ 7 0 8 = (l : Int) →
    ∃ σ', fx_E (fx_S Rf Cf nc) 25 2 [some (.inr (some (7, 0))), some (.inl 1), some (.inl (v : Int)), u3] [] σ = some (none, σ') ∧ TI Rf Cf R C m σ' ∧ TB 2 σ σ' (gsc l ((vlF v).flatMap (wy1 R C m true))) ∧ (∀ w, (gsc l ((vlF v).flatMap (wy1 R C m true))).2 = some w → FT σ' w.1) ∧ (l = 0 → σ' = σ) := by
  obtain ⟨⟨f1, f2⟩, ⟨f3, f4⟩, f5, f6⟩ := h4
  intro d
  induction d with
  | zero =>
    intro v l σ u3 hv hl hI hj h8
    refine ⟨σ, ?_, hI, by rw [vlF_ge (by omega)]; exact TB.refl 2 h8, fun w hw => ?_, fun _ => rfl⟩
    · rw [eX2_tryFolds_2]
      simp (disch := omega) only [eX2_tryFolds_0, eX2_tryFolds_1, eX2_tryFolds_3, eX2_tryFolds_5, eX2_tryFolds_8, eX2_tryFolds_9, eX2_tryFolds_12, eX2_tryFolds_15, eX2_tryFolds_16, eX2_tryFolds_17, eX2_tryFolds_20, eX2_tryFolds_21, eX2_tryFolds_24, eX2_tryFolds_25, eX2_tryFolds_26, eX2_tryFolds_29, eX2_tryFolds_32, eX2_tryFolds_35, eX2_tryFolds_36, eX2_tryFolds_37, eX2_tryFolds_40, eX2_tryFolds_41, eX2_tryFolds_42, eX2_tryFolds_45, eX2_tryFolds_48, eX2_tryFolds_51, eX2_tryFolds_52, eX2_tryFolds_54, eX2_tryFolds_56, eX2_tryFolds_59, eX2_tryFolds_60, eX2_tryFolds_63, eX2_tryFolds_66, eX2_tryFolds_67, eX2_tryFolds_68, eX2_tryFolds_71, eX2_tryFolds_72, eX2_tryFolds_75, eX2_tryFolds_76, eX2_tryFolds_77, eX2_tryFolds_80, eX2_tryFolds_83, eX2_tryFolds_84, eX2_tryFolds_85, eX2_tryFolds_88, eX2_tryFolds_91, eX2_tryFolds_94, eX2_tryFolds_97, eX2_tryFolds_100, eX2_tryFolds_103, fx_bd_some, Option.toList_some, Option.toList_none, List.nil_append, List.cons_append, fx_uo, fx_ui, Int.toNat_natCast, ↓reduceIte, Int.reduceEq, Int.reduceLT, Int.reduceLE, Int.reduceNeg]
      rw [if_neg (by omega)]
    · rw [vlF_ge (by omega), List.flatMap_nil, gsc_nil] at hw
      cases hw
  | succ d ih =>
    intro v l σ u3 hv hl hI hj h8
    by_cases hl0 : l = 0
    · subst hl0
      refine ⟨σ, ?_, hI, by rw [gsc_zero]; exact TB.refl 2 h8, fun w hw => ?_, fun _ => rfl⟩
      · rw [eX2_tryFolds_2]
        simp (disch := omega) only [eX2_tryFolds_0, eX2_tryFolds_1, eX2_tryFolds_3, eX2_tryFolds_5, eX2_tryFolds_8, eX2_tryFolds_9, eX2_tryFolds_12, eX2_tryFolds_15, eX2_tryFolds_16, eX2_tryFolds_17, eX2_tryFolds_20, eX2_tryFolds_21, eX2_tryFolds_24, eX2_tryFolds_25, eX2_tryFolds_26, eX2_tryFolds_29, eX2_tryFolds_32, eX2_tryFolds_35, eX2_tryFolds_36, eX2_tryFolds_37, eX2_tryFolds_40, eX2_tryFolds_41, eX2_tryFolds_42, eX2_tryFolds_45, eX2_tryFolds_48, eX2_tryFolds_51, eX2_tryFolds_52, eX2_tryFolds_54, eX2_tryFolds_56, eX2_tryFolds_59, eX2_tryFolds_60, eX2_tryFolds_63, eX2_tryFolds_66, eX2_tryFolds_67, eX2_tryFolds_68, eX2_tryFolds_71, eX2_tryFolds_72, eX2_tryFolds_75, eX2_tryFolds_76, eX2_tryFolds_77, eX2_tryFolds_80, eX2_tryFolds_83, eX2_tryFolds_84, eX2_tryFolds_85, eX2_tryFolds_88, eX2_tryFolds_91, eX2_tryFolds_94, eX2_tryFolds_97, eX2_tryFolds_100, eX2_tryFolds_103, fx_bd_some, Option.toList_some, Option.toList_none, List.nil_append, List.cons_append, fx_uo, fx_ui, Int.toNat_natCast, ↓reduceIte, Int.reduceEq, Int.reduceLT, Int.reduceLE, Int.reduceNeg, h8]
        rw [if_pos (by omega), if_neg (by omega)]
      · rw [gsc_zero] at hw
        cases hw
    · rw [vlF_lt (show v < 12 by omega), List.flatMap_cons]
      by_cases hL : fLn R C (v / 4) (v % 4)
      · have hLB : fLnB R C (v / 4) (v % 4) = true := fLnB_iff.mpr hL
        have ew : wy1 R C m true (v / 4, v % 4, 0) = bd0 R C m (fBr R C (v / 4) (v % 4) oR oC) (fBc R C (v / 4) (v % 4) oR oC) (fPr R C (v / 4) (v % 4) oR oC) (fPc R C (v / 4) (v % 4) oR oC) [(v / 4, v % 4, 0)] 0 := by
          unfold wy1 wyB fld opn
          simp only [hLB, if_true]
        obtain ⟨σ1, a1, a2, a3, a4, a5, a6, a7⟩ := fi_yes Rf Cf nc (g := 6) (h := 7) (by omega) (by omega) (by rw [f3, f1]) (by rw [f4, f2]) hI.1.flat hI.2.1 0 v (by omega) (by omega) hL
        rw [ic0] at a1
        have hK1 : SK R C m σ1 := hI.1.of (a2 _ _ _ (by omega) (by omega) (by omega)) (a2 _ _ _ (by omega) (by omega) (by omega))
        have h81 : σ1 7 0 8 = (l : Int) := by rw [a2 _ _ _ (by omega) (by omega) (by omega)]; exact h8
        have hBW := f_BWs hI.1.flat hI.1.1.1.2 hI.1.1.2.2 hL (how := 0) (by omega)
        obtain ⟨σ2, c1, c2⟩ := sp_tryBoards Rf Cf nc (g := 7) [(v / 4, v % 4, 0)] hK1 hBW (by omega) a3 hl h81
        rw [← ew] at c2
        have hF : FT σ2 [(v / 4, v % 4, 0)] := by
          refine ⟨by rw [c2.1 _ _ _ (by omega), a4]; rfl, fun i j hi hj' => ?_⟩
          rw [c2.1 _ _ _ (by omega)]
          rcases (show i = 0 ∨ i = 1 by omega) with rfl | rfl
          · rcases (show j = 0 ∨ j = 1 ∨ j = 2 ∨ j = 3 by omega) with rfl | rfl | rfl | rfl
            · exact a5
            · exact a6
            · exact a7
            · exact (a2 _ _ _ (by omega) (by omega) (by omega)).trans hI.2.2.1
          · have e : σ1 11 0 (4 * 1 + j) = σ 11 0 (4 + j) := a2 _ _ _ (by omega) (by omega) (by omega)
            rw [e]
            by_cases hj3 : j < 3
            · rw [hj j hj3]; rfl
            · obtain rfl : j = 3 := by omega
              exact hI.2.2.2
        have hI2 : TI Rf Cf R C m σ2 := ⟨c2.sk hK1, hI.2.1.of (fun o x q1 q2 => by rw [c2.1 _ _ _ (by omega), a2 _ _ _ (by omega) (by omega) (by omega)]), by rw [c2.1 _ _ _ (by omega), a2 _ _ _ (by omega) (by omega) (by omega)]; exact hI.2.2.1, by rw [c2.1 _ _ _ (by omega), a2 _ _ _ (by omega) (by omega) (by omega)]; exact hI.2.2.2⟩
        have hTB : TB 2 σ σ2 (gsc l (wy1 R C m true (v / 4, v % 4, 0))) := ⟨fun o k x q => by rw [c2.1 o k x (by omega), a2 o k x (by omega) (by omega) (by omega)], c2.2.1, fun j hj => by rw [c2.2.2 j hj, a2 _ _ _ (by omega) (by omega) (by omega)]⟩
        have hle := (gsc_le (wy1 R C m true (v / 4, v % 4, 0)) l).1
        obtain ⟨σ', i1, i2, i3, i4, i5⟩ := ih (v + 1) (gsc l (wy1 R C m true (v / 4, v % 4, 0))).1 σ2 u3 (by omega) (by omega) hI2 (fun j hj' => by rw [c2.1 _ _ _ (by omega), a2 _ _ _ (by omega) (by omega) (by omega)]; exact hj j hj') hTB.2.1
        refine ⟨σ', ?_, i2, hTB.tr i3, fun w hw => ?_, fun q => absurd q hl0⟩
        · rw [eX2_tryFolds_2]
          simp (disch := omega) only [eX2_tryFolds_0, eX2_tryFolds_1, eX2_tryFolds_3, eX2_tryFolds_5, eX2_tryFolds_8, eX2_tryFolds_9, eX2_tryFolds_12, eX2_tryFolds_15, eX2_tryFolds_16, eX2_tryFolds_17, eX2_tryFolds_20, eX2_tryFolds_21, eX2_tryFolds_24, eX2_tryFolds_25, eX2_tryFolds_26, eX2_tryFolds_29, eX2_tryFolds_32, eX2_tryFolds_35, eX2_tryFolds_36, eX2_tryFolds_37, eX2_tryFolds_40, eX2_tryFolds_41, eX2_tryFolds_42, eX2_tryFolds_45, eX2_tryFolds_48, eX2_tryFolds_51, eX2_tryFolds_52, eX2_tryFolds_54, eX2_tryFolds_56, eX2_tryFolds_59, eX2_tryFolds_60, eX2_tryFolds_63, eX2_tryFolds_66, eX2_tryFolds_67, eX2_tryFolds_68, eX2_tryFolds_71, eX2_tryFolds_72, eX2_tryFolds_75, eX2_tryFolds_76, eX2_tryFolds_77, eX2_tryFolds_80, eX2_tryFolds_83, eX2_tryFolds_84, eX2_tryFolds_85, eX2_tryFolds_88, eX2_tryFolds_91, eX2_tryFolds_94, eX2_tryFolds_97, eX2_tryFolds_100, eX2_tryFolds_103, fx_bd_some, Option.toList_some, Option.toList_none, List.nil_append, List.cons_append, fx_uo, fx_ui, Int.toNat_natCast, ↓reduceIte, Int.reduceEq, Int.reduceLT, Int.reduceLE, Int.reduceNeg, h8, a1, c1]
          rw [if_pos (by omega), if_pos (by omega), show (v : Int) + 1 = ((v + 1 : Nat) : Int) by omega]
          exact i1
        · rw [gsc_app] at hw
          cases hA : (gsc l (wy1 R C m true (v / 4, v % 4, 0))).2 with
          | none =>
            rw [hA] at hw
            exact i4 w (by simpa using hw)
          | some w' =>
            rw [hA] at hw
            have : w' = w := by simpa using hw
            subst this
            rw [i5 (gsc_found hA)]
            rw [ew] at hA
            rw [(bd0_lab (by omega) hA).1]
            exact hF
      · have hLB : fLnB R C (v / 4) (v % 4) = false := by
          cases q : fLnB R C (v / 4) (v % 4) with
          | false => rfl
          | true => exact absurd (fLnB_iff.mp q) hL
        have ew : wy1 R C m true (v / 4, v % 4, 0) = [] := by
          unfold wy1
          simp [hLB]
        rw [ew, List.nil_append]
        have a1 := fi_no Rf Cf nc (g := 6) (h := 7) hI.1.flat hI.2.1 0 v (by omega) hL
        rw [ic0] at a1
        obtain ⟨σ', i1, i2, i3, i4, i5⟩ := ih (v + 1) l σ u3 (by omega) hl hI hj h8
        refine ⟨σ', ?_, i2, i3, i4, i5⟩
        rw [eX2_tryFolds_2]
        simp (disch := omega) only [eX2_tryFolds_0, eX2_tryFolds_1, eX2_tryFolds_3, eX2_tryFolds_5, eX2_tryFolds_8, eX2_tryFolds_9, eX2_tryFolds_12, eX2_tryFolds_15, eX2_tryFolds_16, eX2_tryFolds_17, eX2_tryFolds_20, eX2_tryFolds_21, eX2_tryFolds_24, eX2_tryFolds_25, eX2_tryFolds_26, eX2_tryFolds_29, eX2_tryFolds_32, eX2_tryFolds_35, eX2_tryFolds_36, eX2_tryFolds_37, eX2_tryFolds_40, eX2_tryFolds_41, eX2_tryFolds_42, eX2_tryFolds_45, eX2_tryFolds_48, eX2_tryFolds_51, eX2_tryFolds_52, eX2_tryFolds_54, eX2_tryFolds_56, eX2_tryFolds_59, eX2_tryFolds_60, eX2_tryFolds_63, eX2_tryFolds_66, eX2_tryFolds_67, eX2_tryFolds_68, eX2_tryFolds_71, eX2_tryFolds_72, eX2_tryFolds_75, eX2_tryFolds_76, eX2_tryFolds_77, eX2_tryFolds_80, eX2_tryFolds_83, eX2_tryFolds_84, eX2_tryFolds_85, eX2_tryFolds_88, eX2_tryFolds_91, eX2_tryFolds_94, eX2_tryFolds_97, eX2_tryFolds_100, eX2_tryFolds_103, fx_bd_some, Option.toList_some, Option.toList_none, List.nil_append, List.cons_append, fx_uo, fx_ui, Int.toNat_natCast, ↓reduceIte, Int.reduceEq, Int.reduceLT, Int.reduceLE, Int.reduceNeg, h8, a1]
        rw [if_pos (by omega), if_pos (by omega), show (v : Int) + 1 = ((v + 1 : Nat) : Int) by omega]
        exact i1
theorem tf2_in (Rf Cf : Nat → Nat) (nc : Nat) {R C m br bc : Nat} {pr pc ph : Nat → Nat} (h4 : I4 Rf Cf) (f : Nat × Nat × Nat) (hf : fLnB R C f.1 f.2.1 = true) (hfl : fld R C f.1 f.2.1 (opn R C) = (br, bc, pr, pc)) (hB : BW R C br bc pr pc ph) (v : Nat) :
    ∀ (d u l : Nat) (σ : fx_M), u + d = 12 → l ≤ 1000 → TI Rf Cf R C m σ → CB Rf Cf 7 R C br bc pr pc ph σ → (∀ j, j < 4 → σ 11 0 j = ftv [f] 0 j) → σ 7 0 8 = (l : Int) →
    ∃ σ' v3, fx_E (fx_S Rf Cf nc) 25 53 [some (.inr (some (7, 0))), some (.inl 2), some (.inl (v : Int)), some (.inl (u : Int))] [] σ = fx_E (fx_S Rf Cf nc) 25 2 [some (.inr (some (7, 0))), some (.inl 2), some (.inl ((v + 1 : Nat) : Int)), v3] [] σ' ∧ TI Rf Cf R C m σ' ∧ TB 2 σ σ' (gsc l ((vlF u).flatMap (wy2 R C m true f))) ∧ (∀ w, (gsc l ((vlF u).flatMap (wy2 R C m true f))).2 = some w → FT σ' w.1) ∧ (l = 0 → σ' = σ) := by
  obtain ⟨⟨f1, f2⟩, ⟨f3, f4⟩, f5, f6⟩ := h4
  intro d
  induction d with
  | zero =>
    intro u l σ hv hl hI hC hj h8
    refine ⟨σ, some (.inl (u : Int)), ?_, hI, by rw [vlF_ge (by omega)]; exact TB.refl 2 h8, fun w hw => ?_, fun _ => rfl⟩
    · rw [eX2_tryFolds_53]
      simp (disch := omega) only [eX2_tryFolds_0, eX2_tryFolds_1, eX2_tryFolds_3, eX2_tryFolds_5, eX2_tryFolds_8, eX2_tryFolds_9, eX2_tryFolds_12, eX2_tryFolds_15, eX2_tryFolds_16, eX2_tryFolds_17, eX2_tryFolds_20, eX2_tryFolds_21, eX2_tryFolds_24, eX2_tryFolds_25, eX2_tryFolds_26, eX2_tryFolds_29, eX2_tryFolds_32, eX2_tryFolds_35, eX2_tryFolds_36, eX2_tryFolds_37, eX2_tryFolds_40, eX2_tryFolds_41, eX2_tryFolds_42, eX2_tryFolds_45, eX2_tryFolds_48, eX2_tryFolds_51, eX2_tryFolds_52, eX2_tryFolds_54, eX2_tryFolds_56, eX2_tryFolds_59, eX2_tryFolds_60, eX2_tryFolds_63, eX2_tryFolds_66, eX2_tryFolds_67, eX2_tryFolds_68, eX2_tryFolds_71, eX2_tryFolds_72, eX2_tryFolds_75, eX2_tryFolds_76, eX2_tryFolds_77, eX2_tryFolds_80, eX2_tryFolds_83, eX2_tryFolds_84, eX2_tryFolds_85, eX2_tryFolds_88, eX2_tryFolds_91, eX2_tryFolds_94, eX2_tryFolds_97, eX2_tryFolds_100, eX2_tryFolds_103, fx_bd_some, Option.toList_some, Option.toList_none, List.nil_append, List.cons_append, fx_uo, fx_ui, Int.toNat_natCast, ↓reduceIte, Int.reduceEq, Int.reduceLT, Int.reduceLE, Int.reduceNeg]
      rw [if_neg (by omega), show (v : Int) + 1 = ((v + 1 : Nat) : Int) by omega]
    · rw [vlF_ge (by omega), List.flatMap_nil, gsc_nil] at hw
      cases hw
  | succ d ih =>
    intro u l σ hv hl hI hC hj h8
    by_cases hl0 : l = 0
    · subst hl0
      refine ⟨σ, some (.inl (u : Int)), ?_, hI, by rw [gsc_zero]; exact TB.refl 2 h8, fun w hw => ?_, fun _ => rfl⟩
      · rw [eX2_tryFolds_53]
        simp (disch := omega) only [eX2_tryFolds_0, eX2_tryFolds_1, eX2_tryFolds_3, eX2_tryFolds_5, eX2_tryFolds_8, eX2_tryFolds_9, eX2_tryFolds_12, eX2_tryFolds_15, eX2_tryFolds_16, eX2_tryFolds_17, eX2_tryFolds_20, eX2_tryFolds_21, eX2_tryFolds_24, eX2_tryFolds_25, eX2_tryFolds_26, eX2_tryFolds_29, eX2_tryFolds_32, eX2_tryFolds_35, eX2_tryFolds_36, eX2_tryFolds_37, eX2_tryFolds_40, eX2_tryFolds_41, eX2_tryFolds_42, eX2_tryFolds_45, eX2_tryFolds_48, eX2_tryFolds_51, eX2_tryFolds_52, eX2_tryFolds_54, eX2_tryFolds_56, eX2_tryFolds_59, eX2_tryFolds_60, eX2_tryFolds_63, eX2_tryFolds_66, eX2_tryFolds_67, eX2_tryFolds_68, eX2_tryFolds_71, eX2_tryFolds_72, eX2_tryFolds_75, eX2_tryFolds_76, eX2_tryFolds_77, eX2_tryFolds_80, eX2_tryFolds_83, eX2_tryFolds_84, eX2_tryFolds_85, eX2_tryFolds_88, eX2_tryFolds_91, eX2_tryFolds_94, eX2_tryFolds_97, eX2_tryFolds_100, eX2_tryFolds_103, fx_bd_some, Option.toList_some, Option.toList_none, List.nil_append, List.cons_append, fx_uo, fx_ui, Int.toNat_natCast, ↓reduceIte, Int.reduceEq, Int.reduceLT, Int.reduceLE, Int.reduceNeg, h8]
        rw [if_pos (by omega), if_neg (by omega), show (v : Int) + 1 = ((v + 1 : Nat) : Int) by omega]
      · rw [gsc_zero] at hw
        cases hw
    · rw [vlF_lt (show u < 12 by omega), List.flatMap_cons]
      by_cases hL : fLn br bc (u / 4) (u % 4)
      · have hLB : fLnB br bc (u / 4) (u % 4) = true := fLnB_iff.mpr hL
        have ew : wy2 R C m true f (u / 4, u % 4, 0) = bd0 R C m (fBr R C (u / 4) (u % 4) pr pc) (fBc R C (u / 4) (u % 4) pr pc) (fPr R C (u / 4) (u % 4) pr pc) (fPc R C (u / 4) (u % 4) pr pc) [f, (u / 4, u % 4, 0)] 0 := by
          unfold wy2
          rw [hfl]
          unfold wyB fld
          simp only [hf, hLB, if_true]
        obtain ⟨σ1, a1, a2, a3, a4, a5, a6, a7⟩ := fi_yes Rf Cf nc (g := 7) (h := 8) (by omega) (by omega) (by rw [f5, f3]) (by rw [f6, f4]) hB hC 1 u (by omega) (by omega) hL
        rw [ic1] at a1
        have hK1 : SK R C m σ1 := hI.1.of (a2 _ _ _ (by omega) (by omega) (by omega)) (a2 _ _ _ (by omega) (by omega) (by omega))
        have h81 : σ1 7 0 8 = (l : Int) := by rw [a2 _ _ _ (by omega) (by omega) (by omega)]; exact h8
        have hBW := f_BWs hB hI.1.1.1.2 hI.1.1.2.2 hL (how := 0) (by omega)
        obtain ⟨σ2, c1, c2⟩ := sp_tryBoards Rf Cf nc (g := 8) [f, (u / 4, u % 4, 0)] hK1 hBW (by omega) a3 hl h81
        rw [← ew] at c2
        have hj2 : ∀ j, j < 4 → σ2 11 0 j = ftv [f] 0 j := fun j hj' => by
          rw [c2.1 _ _ _ (by omega), a2 _ _ _ (by omega) (by omega) (by omega)]; exact hj j hj'
        have hF : FT σ2 [f, (u / 4, u % 4, 0)] := by
          refine ⟨by rw [c2.1 _ _ _ (by omega), a4]; rfl, fun i j hi hj' => ?_⟩
          rcases (show i = 0 ∨ i = 1 by omega) with rfl | rfl
          · rw [show 4 * 0 + j = j by omega, hj2 j hj']; rfl
          · rw [c2.1 _ _ _ (by omega)]
            rcases (show j = 0 ∨ j = 1 ∨ j = 2 ∨ j = 3 by omega) with rfl | rfl | rfl | rfl
            · exact a5
            · exact a6
            · exact a7
            · exact (a2 _ _ _ (by omega) (by omega) (by omega)).trans hI.2.2.2
        have hI2 : TI Rf Cf R C m σ2 := ⟨c2.sk hK1, hI.2.1.of (fun o x q1 q2 => by rw [c2.1 _ _ _ (by omega), a2 _ _ _ (by omega) (by omega) (by omega)]), by rw [c2.1 _ _ _ (by omega), a2 _ _ _ (by omega) (by omega) (by omega)]; exact hI.2.2.1, by rw [c2.1 _ _ _ (by omega), a2 _ _ _ (by omega) (by omega) (by omega)]; exact hI.2.2.2⟩
        have hTB : TB 2 σ σ2 (gsc l (wy2 R C m true f (u / 4, u % 4, 0))) := ⟨fun o k x q => by rw [c2.1 o k x (by omega), a2 o k x (by omega) (by omega) (by omega)], c2.2.1, fun j hj => by rw [c2.2.2 j hj, a2 _ _ _ (by omega) (by omega) (by omega)]⟩
        have hle := (gsc_le (wy2 R C m true f (u / 4, u % 4, 0)) l).1
        obtain ⟨σ', v3, i1, i2, i3, i4, i5⟩ := ih (u + 1) (gsc l (wy2 R C m true f (u / 4, u % 4, 0))).1 σ2 (by omega) (by omega) hI2 (hC.of (fun o x q1 q2 => by rw [c2.1 _ _ _ (by omega), a2 _ _ _ (by omega) (by omega) (by omega)])) hj2 hTB.2.1
        refine ⟨σ', v3, ?_, i2, hTB.tr i3, fun w hw => ?_, fun q => absurd q hl0⟩
        · rw [eX2_tryFolds_53]
          simp (disch := omega) only [eX2_tryFolds_0, eX2_tryFolds_1, eX2_tryFolds_3, eX2_tryFolds_5, eX2_tryFolds_8, eX2_tryFolds_9, eX2_tryFolds_12, eX2_tryFolds_15, eX2_tryFolds_16, eX2_tryFolds_17, eX2_tryFolds_20, eX2_tryFolds_21, eX2_tryFolds_24, eX2_tryFolds_25, eX2_tryFolds_26, eX2_tryFolds_29, eX2_tryFolds_32, eX2_tryFolds_35, eX2_tryFolds_36, eX2_tryFolds_37, eX2_tryFolds_40, eX2_tryFolds_41, eX2_tryFolds_42, eX2_tryFolds_45, eX2_tryFolds_48, eX2_tryFolds_51, eX2_tryFolds_52, eX2_tryFolds_54, eX2_tryFolds_56, eX2_tryFolds_59, eX2_tryFolds_60, eX2_tryFolds_63, eX2_tryFolds_66, eX2_tryFolds_67, eX2_tryFolds_68, eX2_tryFolds_71, eX2_tryFolds_72, eX2_tryFolds_75, eX2_tryFolds_76, eX2_tryFolds_77, eX2_tryFolds_80, eX2_tryFolds_83, eX2_tryFolds_84, eX2_tryFolds_85, eX2_tryFolds_88, eX2_tryFolds_91, eX2_tryFolds_94, eX2_tryFolds_97, eX2_tryFolds_100, eX2_tryFolds_103, fx_bd_some, Option.toList_some, Option.toList_none, List.nil_append, List.cons_append, fx_uo, fx_ui, Int.toNat_natCast, ↓reduceIte, Int.reduceEq, Int.reduceLT, Int.reduceLE, Int.reduceNeg, h8, a1, c1]
          rw [if_pos (by omega), if_pos (by omega), show (u : Int) + 1 = ((u + 1 : Nat) : Int) by omega]
          exact i1
        · rw [gsc_app] at hw
          cases hA : (gsc l (wy2 R C m true f (u / 4, u % 4, 0))).2 with
          | none =>
            rw [hA] at hw
            exact i4 w (by simpa using hw)
          | some w' =>
            rw [hA] at hw
            have : w' = w := by simpa using hw
            subst this
            rw [i5 (gsc_found hA)]
            rw [ew] at hA
            rw [(bd0_lab (by omega) hA).1]
            exact hF
      · have hLB : fLnB br bc (u / 4) (u % 4) = false := by
          cases q : fLnB br bc (u / 4) (u % 4) with
          | false => rfl
          | true => exact absurd (fLnB_iff.mp q) hL
        have ew : wy2 R C m true f (u / 4, u % 4, 0) = [] := by
          unfold wy2
          rw [hfl]
          simp [hLB]
        rw [ew, List.nil_append]
        have a1 := fi_no Rf Cf nc (g := 7) (h := 8) hB hC 1 u (by omega) hL
        rw [ic1] at a1
        obtain ⟨σ', v3, i1, i2, i3, i4, i5⟩ := ih (u + 1) l σ (by omega) hl hI hC hj h8
        refine ⟨σ', v3, ?_, i2, i3, i4, i5⟩
        rw [eX2_tryFolds_53]
        simp (disch := omega) only [eX2_tryFolds_0, eX2_tryFolds_1, eX2_tryFolds_3, eX2_tryFolds_5, eX2_tryFolds_8, eX2_tryFolds_9, eX2_tryFolds_12, eX2_tryFolds_15, eX2_tryFolds_16, eX2_tryFolds_17, eX2_tryFolds_20, eX2_tryFolds_21, eX2_tryFolds_24, eX2_tryFolds_25, eX2_tryFolds_26, eX2_tryFolds_29, eX2_tryFolds_32, eX2_tryFolds_35, eX2_tryFolds_36, eX2_tryFolds_37, eX2_tryFolds_40, eX2_tryFolds_41, eX2_tryFolds_42, eX2_tryFolds_45, eX2_tryFolds_48, eX2_tryFolds_51, eX2_tryFolds_52, eX2_tryFolds_54, eX2_tryFolds_56, eX2_tryFolds_59, eX2_tryFolds_60, eX2_tryFolds_63, eX2_tryFolds_66, eX2_tryFolds_67, eX2_tryFolds_68, eX2_tryFolds_71, eX2_tryFolds_72, eX2_tryFolds_75, eX2_tryFolds_76, eX2_tryFolds_77, eX2_tryFolds_80, eX2_tryFolds_83, eX2_tryFolds_84, eX2_tryFolds_85, eX2_tryFolds_88, eX2_tryFolds_91, eX2_tryFolds_94, eX2_tryFolds_97, eX2_tryFolds_100, eX2_tryFolds_103, fx_bd_some, Option.toList_some, Option.toList_none, List.nil_append, List.cons_append, fx_uo, fx_ui, Int.toNat_natCast, ↓reduceIte, Int.reduceEq, Int.reduceLT, Int.reduceLE, Int.reduceNeg, h8, a1]
        rw [if_pos (by omega), if_pos (by omega), show (u : Int) + 1 = ((u + 1 : Nat) : Int) by omega]
        exact i1
theorem tf2_lp (Rf Cf : Nat → Nat) (nc : Nat) {R C m : Nat} (h4 : I4 Rf Cf) :
    ∀ (d v l : Nat) (σ : fx_M) (u3 : Option fx_V), v + d = 12 → l ≤ 1000 → TI Rf Cf R C m σ → σ 7 0 8 = (l : Int) →
    ∃ σ', fx_E (fx_S Rf Cf nc) 25 2 [some (.inr (some (7, 0))), some (.inl 2), some (.inl (v : Int)), u3] [] σ = some (none, σ') ∧ TB 2 σ σ' (gsc l ((vlF v).flatMap (fun f => (vlF 0).flatMap (wy2 R C m true f)))) ∧ (∀ w, (gsc l ((vlF v).flatMap (fun f => (vlF 0).flatMap (wy2 R C m true f)))).2 = some w → FT σ' w.1) ∧ (l = 0 → σ' = σ) := by
  obtain ⟨⟨f1, f2⟩, ⟨f3, f4⟩, f5, f6⟩ := id h4
  intro d
  induction d with
  | zero =>
    intro v l σ u3 hv hl hI h8
    refine ⟨σ, ?_, by rw [vlF_ge (v := v) (by omega)]; exact TB.refl 2 h8, fun w hw => ?_, fun _ => rfl⟩
    · rw [eX2_tryFolds_2]
      simp (disch := omega) only [eX2_tryFolds_0, eX2_tryFolds_1, eX2_tryFolds_3, eX2_tryFolds_5, eX2_tryFolds_8, eX2_tryFolds_9, eX2_tryFolds_12, eX2_tryFolds_15, eX2_tryFolds_16, eX2_tryFolds_17, eX2_tryFolds_20, eX2_tryFolds_21, eX2_tryFolds_24, eX2_tryFolds_25, eX2_tryFolds_26, eX2_tryFolds_29, eX2_tryFolds_32, eX2_tryFolds_35, eX2_tryFolds_36, eX2_tryFolds_37, eX2_tryFolds_40, eX2_tryFolds_41, eX2_tryFolds_42, eX2_tryFolds_45, eX2_tryFolds_48, eX2_tryFolds_51, eX2_tryFolds_52, eX2_tryFolds_54, eX2_tryFolds_56, eX2_tryFolds_59, eX2_tryFolds_60, eX2_tryFolds_63, eX2_tryFolds_66, eX2_tryFolds_67, eX2_tryFolds_68, eX2_tryFolds_71, eX2_tryFolds_72, eX2_tryFolds_75, eX2_tryFolds_76, eX2_tryFolds_77, eX2_tryFolds_80, eX2_tryFolds_83, eX2_tryFolds_84, eX2_tryFolds_85, eX2_tryFolds_88, eX2_tryFolds_91, eX2_tryFolds_94, eX2_tryFolds_97, eX2_tryFolds_100, eX2_tryFolds_103, fx_bd_some, Option.toList_some, Option.toList_none, List.nil_append, List.cons_append, fx_uo, fx_ui, Int.toNat_natCast, ↓reduceIte, Int.reduceEq, Int.reduceLT, Int.reduceLE, Int.reduceNeg]
      rw [if_neg (by omega)]
    · rw [vlF_ge (v := v) (by omega), List.flatMap_nil, gsc_nil] at hw
      cases hw
  | succ d ih =>
    intro v l σ u3 hv hl hI h8
    by_cases hl0 : l = 0
    · subst hl0
      refine ⟨σ, ?_, by rw [gsc_zero]; exact TB.refl 2 h8, fun w hw => ?_, fun _ => rfl⟩
      · rw [eX2_tryFolds_2]
        simp (disch := omega) only [eX2_tryFolds_0, eX2_tryFolds_1, eX2_tryFolds_3, eX2_tryFolds_5, eX2_tryFolds_8, eX2_tryFolds_9, eX2_tryFolds_12, eX2_tryFolds_15, eX2_tryFolds_16, eX2_tryFolds_17, eX2_tryFolds_20, eX2_tryFolds_21, eX2_tryFolds_24, eX2_tryFolds_25, eX2_tryFolds_26, eX2_tryFolds_29, eX2_tryFolds_32, eX2_tryFolds_35, eX2_tryFolds_36, eX2_tryFolds_37, eX2_tryFolds_40, eX2_tryFolds_41, eX2_tryFolds_42, eX2_tryFolds_45, eX2_tryFolds_48, eX2_tryFolds_51, eX2_tryFolds_52, eX2_tryFolds_54, eX2_tryFolds_56, eX2_tryFolds_59, eX2_tryFolds_60, eX2_tryFolds_63, eX2_tryFolds_66, eX2_tryFolds_67, eX2_tryFolds_68, eX2_tryFolds_71, eX2_tryFolds_72, eX2_tryFolds_75, eX2_tryFolds_76, eX2_tryFolds_77, eX2_tryFolds_80, eX2_tryFolds_83, eX2_tryFolds_84, eX2_tryFolds_85, eX2_tryFolds_88, eX2_tryFolds_91, eX2_tryFolds_94, eX2_tryFolds_97, eX2_tryFolds_100, eX2_tryFolds_103, fx_bd_some, Option.toList_some, Option.toList_none, List.nil_append, List.cons_append, fx_uo, fx_ui, Int.toNat_natCast, ↓reduceIte, Int.reduceEq, Int.reduceLT, Int.reduceLE, Int.reduceNeg, h8]
        rw [if_pos (by omega), if_neg (by omega)]
      · rw [gsc_zero] at hw
        cases hw
    · rw [vlF_lt (show v < 12 by omega), List.flatMap_cons]
      by_cases hL : fLn R C (v / 4) (v % 4)
      · have hLB : fLnB R C (v / 4) (v % 4) = true := fLnB_iff.mpr hL
        obtain ⟨σ1, a1, a2, a3, a4, a5, a6, a7⟩ := fi_yes Rf Cf nc (g := 6) (h := 7) (by omega) (by omega) (by rw [f3, f1]) (by rw [f4, f2]) hI.1.flat hI.2.1 0 v (by omega) (by omega) hL
        rw [ic0] at a1
        have hK1 : SK R C m σ1 := hI.1.of (a2 _ _ _ (by omega) (by omega) (by omega)) (a2 _ _ _ (by omega) (by omega) (by omega))
        have h81 : σ1 7 0 8 = (l : Int) := by rw [a2 _ _ _ (by omega) (by omega) (by omega)]; exact h8
        have hBW := f_BWs hI.1.flat hI.1.1.1.2 hI.1.1.2.2 hL (how := 0) (by omega)
        have hI1 : TI Rf Cf R C m σ1 := ⟨hK1, hI.2.1.of (fun o x q1 q2 => a2 _ _ _ (by omega) (by omega) (by omega)), by rw [a2 _ _ _ (by omega) (by omega) (by omega)]; exact hI.2.2.1, by rw [a2 _ _ _ (by omega) (by omega) (by omega)]; exact hI.2.2.2⟩
        have hj1 : ∀ j, j < 4 → σ1 11 0 j = ftv [(v / 4, v % 4, 0)] 0 j := fun j hj => by
          rcases (show j = 0 ∨ j = 1 ∨ j = 2 ∨ j = 3 by omega) with rfl | rfl | rfl | rfl
          · exact a5
          · exact a6
          · exact a7
          · exact hI1.2.2.1
        obtain ⟨σ2, v3, c1, c2, c3, c4, c5⟩ := tf2_in Rf Cf nc (m := m) h4 (v / 4, v % 4, 0) hLB rfl hBW v 12 0 l σ1 (by omega) hl hI1 a3 hj1 h81
        rw [ic0] at c1
        have hTB : TB 2 σ σ2 (gsc l ((vlF 0).flatMap (wy2 R C m true (v / 4, v % 4, 0)))) := ⟨fun o k x q => by rw [c3.1 o k x q, a2 o k x (by omega) (by omega) (by omega)], c3.2.1, fun j hj => by rw [c3.2.2 j hj, a2 _ _ _ (by omega) (by omega) (by omega)]⟩
        have hle := (gsc_le ((vlF 0).flatMap (wy2 R C m true (v / 4, v % 4, 0))) l).1
        obtain ⟨σ', i1, i3, i4, i5⟩ := ih (v + 1) (gsc l ((vlF 0).flatMap (wy2 R C m true (v / 4, v % 4, 0)))).1 σ2 v3 (by omega) (by omega) c2 hTB.2.1
        refine ⟨σ', ?_, hTB.tr i3, fun w hw => ?_, fun q => absurd q hl0⟩
        · rw [eX2_tryFolds_2]
          simp (disch := omega) only [eX2_tryFolds_0, eX2_tryFolds_1, eX2_tryFolds_3, eX2_tryFolds_5, eX2_tryFolds_8, eX2_tryFolds_9, eX2_tryFolds_12, eX2_tryFolds_15, eX2_tryFolds_16, eX2_tryFolds_17, eX2_tryFolds_20, eX2_tryFolds_21, eX2_tryFolds_24, eX2_tryFolds_25, eX2_tryFolds_26, eX2_tryFolds_29, eX2_tryFolds_32, eX2_tryFolds_35, eX2_tryFolds_36, eX2_tryFolds_37, eX2_tryFolds_40, eX2_tryFolds_41, eX2_tryFolds_42, eX2_tryFolds_45, eX2_tryFolds_48, eX2_tryFolds_51, eX2_tryFolds_52, eX2_tryFolds_54, eX2_tryFolds_56, eX2_tryFolds_59, eX2_tryFolds_60, eX2_tryFolds_63, eX2_tryFolds_66, eX2_tryFolds_67, eX2_tryFolds_68, eX2_tryFolds_71, eX2_tryFolds_72, eX2_tryFolds_75, eX2_tryFolds_76, eX2_tryFolds_77, eX2_tryFolds_80, eX2_tryFolds_83, eX2_tryFolds_84, eX2_tryFolds_85, eX2_tryFolds_88, eX2_tryFolds_91, eX2_tryFolds_94, eX2_tryFolds_97, eX2_tryFolds_100, eX2_tryFolds_103, fx_bd_some, Option.toList_some, Option.toList_none, List.nil_append, List.cons_append, fx_uo, fx_ui, Int.toNat_natCast, ↓reduceIte, Int.reduceEq, Int.reduceLT, Int.reduceLE, Int.reduceNeg, h8, a1]
          rw [if_pos (by omega), if_pos (by omega)]
          exact c1.trans i1
        · rw [gsc_app] at hw
          cases hA : (gsc l ((vlF 0).flatMap (wy2 R C m true (v / 4, v % 4, 0)))).2 with
          | none =>
            rw [hA] at hw
            exact i4 w (by simpa using hw)
          | some w' =>
            have hw' := c4 w' hA
            rw [hA] at hw
            have : w' = w := by simpa using hw
            subst this
            rw [i5 (gsc_found hA)]
            exact hw'
      · have hLB : fLnB R C (v / 4) (v % 4) = false := by
          cases q : fLnB R C (v / 4) (v % 4) with
          | false => rfl
          | true => exact absurd (fLnB_iff.mp q) hL
        have ew : (vlF 0).flatMap (wy2 R C m true (v / 4, v % 4, 0)) = [] := by
          rw [List.flatMap_eq_nil_iff]
          intro g _
          unfold wy2
          simp [hLB]
        rw [ew, List.nil_append]
        have a1 := fi_no Rf Cf nc (g := 6) (h := 7) hI.1.flat hI.2.1 0 v (by omega) hL
        rw [ic0] at a1
        obtain ⟨σ', i1, i3, i4, i5⟩ := ih (v + 1) l σ u3 (by omega) hl hI h8
        refine ⟨σ', ?_, i3, i4, i5⟩
        rw [eX2_tryFolds_2]
        simp (disch := omega) only [eX2_tryFolds_0, eX2_tryFolds_1, eX2_tryFolds_3, eX2_tryFolds_5, eX2_tryFolds_8, eX2_tryFolds_9, eX2_tryFolds_12, eX2_tryFolds_15, eX2_tryFolds_16, eX2_tryFolds_17, eX2_tryFolds_20, eX2_tryFolds_21, eX2_tryFolds_24, eX2_tryFolds_25, eX2_tryFolds_26, eX2_tryFolds_29, eX2_tryFolds_32, eX2_tryFolds_35, eX2_tryFolds_36, eX2_tryFolds_37, eX2_tryFolds_40, eX2_tryFolds_41, eX2_tryFolds_42, eX2_tryFolds_45, eX2_tryFolds_48, eX2_tryFolds_51, eX2_tryFolds_52, eX2_tryFolds_54, eX2_tryFolds_56, eX2_tryFolds_59, eX2_tryFolds_60, eX2_tryFolds_63, eX2_tryFolds_66, eX2_tryFolds_67, eX2_tryFolds_68, eX2_tryFolds_71, eX2_tryFolds_72, eX2_tryFolds_75, eX2_tryFolds_76, eX2_tryFolds_77, eX2_tryFolds_80, eX2_tryFolds_83, eX2_tryFolds_84, eX2_tryFolds_85, eX2_tryFolds_88, eX2_tryFolds_91, eX2_tryFolds_94, eX2_tryFolds_97, eX2_tryFolds_100, eX2_tryFolds_103, fx_bd_some, Option.toList_some, Option.toList_none, List.nil_append, List.cons_append, fx_uo, fx_ui, Int.toNat_natCast, ↓reduceIte, Int.reduceEq, Int.reduceLT, Int.reduceLE, Int.reduceNeg, h8, a1]
        rw [if_pos (by omega), if_pos (by omega), show (v : Int) + 1 = ((v + 1 : Nat) : Int) by omega]
        exact i1
theorem sp_clear (Rf Cf : Nat → Nat) (nc : Nat) (σ : fx_M) : fx_Ca (fx_S Rf Cf nc) 36 [.inr (some (10, 0))] σ = some (none, fx_up (fx_fr σ 11 0 0 12 (fun _ => -1)) 10 0 1 0) := by
  have e := sp_fill Rf Cf nc 11 0 12 rfl rfl (by omega) (-1) σ
  rw [entX4_clear]
  simp only [eX4_clear_0, eX4_clear_1, eX4_clear_4, eX4_clear_5, eX4_clear_8, eX4_clear_9, eX4_clear_10, eX4_clear_13, fx_bd_some, Option.toList_some, Option.toList_none, List.nil_append, List.cons_append, fx_uo, fx_ui, Int.toNat_natCast, ↓reduceIte, Int.reduceEq, Int.reduceLT, Int.reduceLE, Int.reduceNeg, e]
theorem i32_shl16 : ∀ i : Nat, i < 17 → (Int32.ofInt 1 <<< (Int32.ofInt (i : Int) &&& 31)).toInt = ((2 ^ i : Nat) : Int) := by decide
/-- the tried way, or the latest, is this one -/
def WF (σ : fx_M) (g : Nat) (w : Wy) : Prop := σ 10 g 1 = (w.1.length : Int) ∧ ∀ i j, i < 3 → j < 4 → σ 11 g (4 * i + j) = if i = 2 then bvl (-1) (some w) j else ftv w.1 i j
def d0 (R C m : Nat) : Nat := dif R C m oR oC noB
def rsl (R C m : Nat) : Nat × Option Wy := gsc (d0 R C m) (bd0 R C m R C oR oC [] 0 ++ (cl1 R C m ++ cl2 R C m))
def fnd (R C m : Nat) : Option Wy := (if d0 R C m = 0 then some (([], none) : Wy) else none).or (rsl R C m).2
theorem sp_least (Rf Cf : Nat → Nat) (nc : Nat) {R C m : Nat} (h4 : I4 Rf Cf) {σ : fx_M} (hR : 1 ≤ R ∧ R ≤ 4) (hC : 1 ≤ C ∧ C ≤ 4) (hm : m < 65536) (hm0 : ∀ i, R * C ≤ i → m.testBit i = false) (w0 : σ 6 0 0 = R) (w1 : σ 6 0 1 = C) (w2 : σ 6 0 2 = m) :
    ∃ σ', fx_Ca (fx_S Rf Cf nc) 24 [.inr (some (7, 0)), .inr (some (6, 0))] σ = some (some (.inl ((rsl R C m).1 : Int)), σ') ∧ (∀ o k x, ¬ (k = 0 ∧ 7 ≤ o ∧ o ≤ 11) → ¬ (15 ≤ o ∧ o ≤ 19 ∧ 6 ≤ k ∧ k ≤ 8) → σ' o k x = σ o k x) ∧ ∀ w, fnd R C m = some w → WF σ' 0 w := by
  obtain ⟨⟨f1, f2⟩, ⟨f3, f4⟩, f5, f6⟩ := id h4
  have h16 : R * C ≤ 16 := Nat.mul_le_mul hR.2 hC.2
  obtain ⟨σ1, a1, a2, a3⟩ := sp_spread Rf Cf nc (g := 6) σ hR.1 (by omega) (by omega) hC.1 (by omega) (by rw [f1, f2]; omega)
  have hp := Nat.two_pow_pos (R * C)
  obtain ⟨τ, hτ⟩ : ∃ τ, τ = fx_up (fx_up σ1 7 0 6 ((2 ^ (R * C) - 1 : Nat) : Int)) 7 0 7 (m : Int) := ⟨_, rfl⟩
  obtain ⟨ρ, hρ⟩ : ∃ ρ, ρ = fx_up (fx_fr τ 11 0 0 12 (fun _ => -1)) 10 0 1 0 := ⟨_, rfl⟩
  have fτ : ∀ o k x, ¬ (k = 0 ∧ o = 7) → τ o k x = σ1 o k x := fun o k x q => by
    rw [hτ]; unfold fx_up
    rw [if_neg (by omega), if_neg (by omega)]
  have fρ : ∀ o k x, ¬ (k = 0 ∧ (o = 10 ∨ o = 11)) → ρ o k x = τ o k x := fun o k x q => by
    rw [hρ]; unfold fx_up fx_fr
    rw [if_neg (by omega), if_neg (by omega)]
  have r11 : ∀ x, x < 12 → ρ 11 0 x = -1 := fun x hx => by
    rw [hρ, fx_uo (by omega)]; unfold fx_fr
    rw [if_pos (by omega)]
  have r10 : ρ 10 0 1 = 0 := by rw [hρ, fx_ui, if_pos rfl]
  have hK : SK R C m ρ := ⟨⟨hR, hC⟩, hm, hm0, by rw [fρ _ _ _ (by omega), hτ, fx_ui, if_neg (by omega), fx_ui, if_pos rfl], by rw [fρ _ _ _ (by omega), hτ, fx_ui, if_pos rfl]⟩
  have e0 := sp_differ Rf Cf nc hK oR oC noB BM.zero (fun i _ => rfl)
  obtain ⟨μ, hμ⟩ : ∃ μ, μ = fx_up ρ 7 0 8 (d0 R C m : Int) := ⟨_, rfl⟩
  have fμ : ∀ o k x, ¬ (k = 0 ∧ o = 7 ∧ x = 8) → μ o k x = ρ o k x := fun o k x q => by
    rw [hμ]; unfold fx_up
    rw [if_neg (by omega)]
  have m8 : μ 7 0 8 = (d0 R C m : Int) := by rw [hμ, fx_ui, if_pos rfl]
  have hd : d0 R C m ≤ 144 := cntP_le _ _
  have hKμ : SK R C m μ := hK.of (fμ _ _ _ (by omega)) (fμ _ _ _ (by omega))
  have hCμ : CB Rf Cf 6 R C R C oR oC oH μ := a3.of (fun o x q1 q2 => by rw [fμ _ _ _ (by omega), fρ _ _ _ (by omega), fτ _ _ _ (by omega)])
  obtain ⟨σ2, b1, b2⟩ := sp_tryBoards Rf Cf nc (g := 6) [] hKμ hKμ.flat (by omega) hCμ (show d0 R C m ≤ 1000 by omega) m8
  have g11 : ∀ x, x < 8 → σ2 11 0 x = -1 := fun x hx => by rw [b2.1 _ _ _ (by omega), fμ _ _ _ (by omega)]; exact r11 x (by omega)
  have g10 : σ2 10 0 1 = 0 := by rw [b2.1 _ _ _ (by omega), fμ _ _ _ (by omega)]; exact r10
  have hI2 : TI Rf Cf R C m σ2 := ⟨b2.sk hKμ, hCμ.of (fun o x q1 q2 => b2.1 _ _ _ (by omega)), g11 3 (by omega), g11 7 (by omega)⟩
  have l1 := (gsc_le (bd0 R C m R C oR oC [] 0) (d0 R C m)).1
  obtain ⟨σ3, c1, c2, c3, c4, c5⟩ := tf1_lp Rf Cf nc (m := m) h4 12 0 _ σ2 none (by omega) (by omega) hI2 (fun j hj => g11 (4 + j) (by omega)) b2.2.1
  rw [ic0] at c1
  have l2 := (gsc_le ((vlF 0).flatMap (wy1 R C m true)) (gsc (d0 R C m) (bd0 R C m R C oR oC [] 0)).1).1
  obtain ⟨σ4, e1, e3, e4, e5⟩ := tf2_lp Rf Cf nc (m := m) h4 12 0 _ σ3 none (by omega) (by omega) c2 c3.2.1
  rw [ic0] at e1
  have hT : TB 2 μ σ4 (rsl R C m) := (b2.up (by omega)).tr (c3.tr e3)
  refine ⟨σ4, ?_, fun o k x q1 q2 => ?_, fun w hw => ?_⟩
  · have sh := i32_shl16 (R * C) (by omega)
    have sb : ((2 ^ (R * C) : Nat) : Int) - 1 = ((2 ^ (R * C) - 1 : Nat) : Int) := by omega
    have cl := sp_clear Rf Cf nc τ
    rw [← hρ] at cl
    have v6 : σ1 6 0 2 = m := by rw [a2 _ _ _ (by omega)]; exact w2
    rw [← show d0 R C m = dif R C m oR oC noB from rfl] at e0
    have t1 : fx_Ca (fx_S Rf Cf nc) 25 [.inr (some (7, 0)), .inl 1] σ2 = some (none, σ3) := by
      rw [entX2_tryFolds]
      simp only [eX2_tryFolds_0, eX2_tryFolds_1, eX2_tryFolds_3, eX2_tryFolds_5, eX2_tryFolds_8, eX2_tryFolds_9, eX2_tryFolds_12, eX2_tryFolds_15, eX2_tryFolds_16, eX2_tryFolds_17, eX2_tryFolds_20, eX2_tryFolds_21, eX2_tryFolds_24, eX2_tryFolds_25, eX2_tryFolds_26, eX2_tryFolds_29, eX2_tryFolds_32, eX2_tryFolds_35, eX2_tryFolds_36, eX2_tryFolds_37, eX2_tryFolds_40, eX2_tryFolds_41, eX2_tryFolds_42, eX2_tryFolds_45, eX2_tryFolds_48, eX2_tryFolds_51, eX2_tryFolds_52, eX2_tryFolds_54, eX2_tryFolds_56, eX2_tryFolds_59, eX2_tryFolds_60, eX2_tryFolds_63, eX2_tryFolds_66, eX2_tryFolds_67, eX2_tryFolds_68, eX2_tryFolds_71, eX2_tryFolds_72, eX2_tryFolds_75, eX2_tryFolds_76, eX2_tryFolds_77, eX2_tryFolds_80, eX2_tryFolds_83, eX2_tryFolds_84, eX2_tryFolds_85, eX2_tryFolds_88, eX2_tryFolds_91, eX2_tryFolds_94, eX2_tryFolds_97, eX2_tryFolds_100, eX2_tryFolds_103]
      exact c1
    have t2 : fx_Ca (fx_S Rf Cf nc) 25 [.inr (some (7, 0)), .inl 2] σ3 = some (none, σ4) := by
      rw [entX2_tryFolds]
      simp only [eX2_tryFolds_0, eX2_tryFolds_1, eX2_tryFolds_3, eX2_tryFolds_5, eX2_tryFolds_8, eX2_tryFolds_9, eX2_tryFolds_12, eX2_tryFolds_15, eX2_tryFolds_16, eX2_tryFolds_17, eX2_tryFolds_20, eX2_tryFolds_21, eX2_tryFolds_24, eX2_tryFolds_25, eX2_tryFolds_26, eX2_tryFolds_29, eX2_tryFolds_32, eX2_tryFolds_35, eX2_tryFolds_36, eX2_tryFolds_37, eX2_tryFolds_40, eX2_tryFolds_41, eX2_tryFolds_42, eX2_tryFolds_45, eX2_tryFolds_48, eX2_tryFolds_51, eX2_tryFolds_52, eX2_tryFolds_54, eX2_tryFolds_56, eX2_tryFolds_59, eX2_tryFolds_60, eX2_tryFolds_63, eX2_tryFolds_66, eX2_tryFolds_67, eX2_tryFolds_68, eX2_tryFolds_71, eX2_tryFolds_72, eX2_tryFolds_75, eX2_tryFolds_76, eX2_tryFolds_77, eX2_tryFolds_80, eX2_tryFolds_83, eX2_tryFolds_84, eX2_tryFolds_85, eX2_tryFolds_88, eX2_tryFolds_91, eX2_tryFolds_94, eX2_tryFolds_97, eX2_tryFolds_100, eX2_tryFolds_103]
      exact e1
    rw [entX2_leastDiffering]
    simp only [eX2_leastDiffering_0, eX2_leastDiffering_1, eX2_leastDiffering_4, eX2_leastDiffering_5, eX2_leastDiffering_8, eX2_leastDiffering_9, eX2_leastDiffering_12, eX2_leastDiffering_15, eX2_leastDiffering_16, eX2_leastDiffering_17, eX2_leastDiffering_18, eX2_leastDiffering_21, eX2_leastDiffering_24, eX2_leastDiffering_25, eX2_leastDiffering_26, eX2_leastDiffering_27, eX2_leastDiffering_30, eX2_leastDiffering_31, eX2_leastDiffering_32, eX2_leastDiffering_35, eX2_leastDiffering_38, eX2_leastDiffering_39, eX2_leastDiffering_42, eX2_leastDiffering_45, eX2_leastDiffering_46, eX2_leastDiffering_47, eX2_leastDiffering_48, eX2_leastDiffering_51, eX2_leastDiffering_54, eX2_leastDiffering_55, eX2_leastDiffering_56, eX2_leastDiffering_59, eX2_leastDiffering_62, eX2_leastDiffering_63, eX2_leastDiffering_64, eX2_leastDiffering_67, eX2_leastDiffering_68, eX2_leastDiffering_69, eX2_leastDiffering_72, eX2_leastDiffering_73, eX2_leastDiffering_76, fx_bd_some, Option.toList_some, Option.toList_none, List.nil_append, List.cons_append, fx_uo, fx_ui, Int.toNat_natCast, ↓reduceIte, Int.reduceEq, Int.reduceLT, Int.reduceLE, Int.reduceNeg, w0, w1, a1, a3.2.1, sh, sb, v6, ← hτ, cl, e0, ← hμ, b1, t1, t2, hT.2.1]
    try simp only [fx_uo (show ¬ 6 = 7 by omega), v6, ← hτ, eX2_leastDiffering_0, eX2_leastDiffering_1, eX2_leastDiffering_4, eX2_leastDiffering_5, eX2_leastDiffering_8, eX2_leastDiffering_9, eX2_leastDiffering_12, eX2_leastDiffering_15, eX2_leastDiffering_16, eX2_leastDiffering_17, eX2_leastDiffering_18, eX2_leastDiffering_21, eX2_leastDiffering_24, eX2_leastDiffering_25, eX2_leastDiffering_26, eX2_leastDiffering_27, eX2_leastDiffering_30, eX2_leastDiffering_31, eX2_leastDiffering_32, eX2_leastDiffering_35, eX2_leastDiffering_38, eX2_leastDiffering_39, eX2_leastDiffering_42, eX2_leastDiffering_45, eX2_leastDiffering_46, eX2_leastDiffering_47, eX2_leastDiffering_48, eX2_leastDiffering_51, eX2_leastDiffering_54, eX2_leastDiffering_55, eX2_leastDiffering_56, eX2_leastDiffering_59, eX2_leastDiffering_62, eX2_leastDiffering_63, eX2_leastDiffering_64, eX2_leastDiffering_67, eX2_leastDiffering_68, eX2_leastDiffering_69, eX2_leastDiffering_72, eX2_leastDiffering_73, eX2_leastDiffering_76, fx_bd_some, Option.toList_some, Option.toList_none, List.nil_append, List.cons_append, fx_uo, fx_ui, Int.toNat_natCast, ↓reduceIte, Int.reduceEq, Int.reduceLT, Int.reduceLE, Int.reduceNeg, cl, e0, ← hμ, b1, t1, t2, hT.2.1]
  · rw [hT.1 o k x (by omega), fμ o k x (by omega), fρ o k x (by omega), fτ o k x (by omega), a2 o k x (by omega)]
  · have hb : ∀ j, j < 4 → σ4 11 0 (8 + j) = bvl (-1) (rsl R C m).2 j := fun j hj => by
      rw [hT.2.2 j hj, fμ _ _ _ (by omega), r11 _ (by omega)]
    have fin : ∀ w', FT σ4 w'.1 → (∀ j, j < 4 → σ4 11 0 (8 + j) = bvl (-1) (some w') j) → WF σ4 0 w' := fun w' p1 p2 => by
      refine ⟨p1.1, fun i j hi hj => ?_⟩
      by_cases hi2 : i = 2
      · subst hi2
        rw [if_pos rfl]
        exact p2 j hj
      · rw [if_neg hi2]
        exact p1.2 i j (by omega) hj
    have F2 : FT σ2 [] := ⟨g10, fun i j hi hj => g11 _ (by omega)⟩
    unfold fnd at hw
    by_cases hz : d0 R C m = 0
    · rw [if_pos hz] at hw
      have : (([], none) : Wy) = w := by simpa using hw
      subst this
      have z1 : (gsc (d0 R C m) (bd0 R C m R C oR oC [] 0)).1 = 0 := by omega
      have q3 := c5 z1
      have z2 : (gsc (gsc (d0 R C m) (bd0 R C m R C oR oC [] 0)).1 ((vlF 0).flatMap (wy1 R C m true))).1 = 0 := by omega
      have q4 := e5 z2
      refine fin _ (by rw [q4, q3]; exact F2) (fun j hj => ?_)
      rw [hb j hj]
      unfold rsl
      rw [hz, gsc_zero]
      rfl
    · rw [if_neg hz, Option.none_or] at hw
      refine fin w ?_ (fun j hj => by rw [hb j hj, hw])
      unfold rsl at hw
      rw [gsc_app] at hw
      cases hA : (gsc (d0 R C m) (bd0 R C m R C oR oC [] 0)).2 with
      | some w' =>
        rw [hA] at hw
        have : w' = w := by simpa using hw
        subst this
        have z1 := gsc_found hA
        have q3 := c5 z1
        have z2 : (gsc (gsc (d0 R C m) (bd0 R C m R C oR oC [] 0)).1 ((vlF 0).flatMap (wy1 R C m true))).1 = 0 := by omega
        have q4 := e5 z2
        rw [q4, q3, (bd0_lab (by omega) hA).1]
        exact F2
      | none =>
        rw [hA, Option.none_or, gsc_app] at hw
        cases hA2 : (gsc (gsc (d0 R C m) (bd0 R C m R C oR oC [] 0)).1 (cl1 R C m)).2 with
        | some w' =>
          rw [hA2] at hw
          have : w' = w := by simpa using hw
          subst this
          have q4 := e5 (gsc_found hA2)
          rw [q4]
          exact c4 w' hA2
        | none =>
          rw [hA2, Option.none_or] at hw
          exact e4 w hw
