/-! the class's bundles: counting, trimming, folding, spreading -/
theorem sp_cs_lp (Rf Cf : Nat → Nat) (nc : Nat) {g N : Nat} (a b : Nat → Nat) (hR : Rf g ≤ 12) (hN : N ≤ Rf g * Cf g) (hN2 : N ≤ 144) : ∀ (d i : Nat) (σ : fx_M), i + d = N → σ 15 g 4 = N → (∀ j, j < N → σ 16 g j = a j ∧ σ 17 g j = b j ∧ 12 * a j + b j < 12 * Rf g) → (∀ p, p < 12 * Rf g → σ 19 g p = cntP i (fun j => decide (12 * a j + b j = p))) →
    ∃ σ', fx_E (fx_S Rf Cf nc) 16 10 [some (.inr (some (15, g))), some (.inl (i : Int))] [] σ = some (none, σ') ∧ (∀ o h x, ¬ (o = 19 ∧ h = g) → σ' o h x = σ o h x) ∧ ∀ p, p < 12 * Rf g → σ' 19 g p = cntP N (fun j => decide (12 * a j + b j = p)) := by
  intro d
  induction d with
  | zero =>
    intro i σ h h4 hab hs
    obtain rfl : i = N := by omega
    rw [eX0_countSizes_10]
    simp (disch := omega) only [eX0_countSizes_0, eX0_countSizes_1, eX0_countSizes_4, eX0_countSizes_5, eX0_countSizes_8, eX0_countSizes_9, eX0_countSizes_11, eX0_countSizes_12, eX0_countSizes_15, eX0_countSizes_18, eX0_countSizes_19, eX0_countSizes_22, eX0_countSizes_23, eX0_countSizes_26, eX0_countSizes_27, eX0_countSizes_28, eX0_countSizes_30, eX0_countSizes_31, eX0_countSizes_32, eX0_countSizes_35, eX0_countSizes_36, eX0_countSizes_37, eX0_countSizes_38, eX0_countSizes_39, eX0_countSizes_40, eX0_countSizes_41, eX0_countSizes_42, eX0_countSizes_43, eX0_countSizes_46, eX0_countSizes_49, fx_bd_some, Option.toList_some, Option.toList_none, List.nil_append, List.cons_append, fx_uo, fx_ui, Int.toNat_natCast, ↓reduceIte, Int.reduceEq, Int.reduceLT, Int.reduceLE, Int.reduceNeg, h4]
    rw [if_neg (by omega)]
    exact ⟨σ, rfl, fun _ _ _ _ => rfl, hs⟩
  | succ d ih =>
    intro i σ h h4 hab hs
    obtain ⟨e1, e2, e3⟩ := hab i (by omega)
    have i1 : ((a i : Int) * 12 + (b i : Int)).toNat = 12 * a i + b i := by omega
    have hi : ((i : Int) < (N : Int)) = True := by simp; omega
    rw [eX0_countSizes_10]
    simp (disch := omega) only [eX0_countSizes_0, eX0_countSizes_1, eX0_countSizes_4, eX0_countSizes_5, eX0_countSizes_8, eX0_countSizes_9, eX0_countSizes_11, eX0_countSizes_12, eX0_countSizes_15, eX0_countSizes_18, eX0_countSizes_19, eX0_countSizes_22, eX0_countSizes_23, eX0_countSizes_26, eX0_countSizes_27, eX0_countSizes_28, eX0_countSizes_30, eX0_countSizes_31, eX0_countSizes_32, eX0_countSizes_35, eX0_countSizes_36, eX0_countSizes_37, eX0_countSizes_38, eX0_countSizes_39, eX0_countSizes_40, eX0_countSizes_41, eX0_countSizes_42, eX0_countSizes_43, eX0_countSizes_46, eX0_countSizes_49, fx_bd_some, Option.toList_some, Option.toList_none, List.nil_append, List.cons_append, fx_uo, fx_ui, Int.toNat_natCast, ↓reduceIte, Int.reduceEq, Int.reduceLT, Int.reduceLE, Int.reduceNeg, h4, hi, e1, e2, i1]
    rw [show (i : Int) + 1 = ((i + 1 : Nat) : Int) by omega]
    obtain ⟨σ', q1, q2, q3⟩ := ih (i + 1) (fx_up σ 19 g (12 * a i + b i) (σ 19 g (12 * a i + b i) + 1)) (by omega) (by rw [fx_uo (by omega)]; exact h4) (fun j hj => by rw [fx_uo (by omega), fx_uo (by omega)]; exact hab j hj) (fun p hp => by
      rw [fx_ui]
      simp only [cntP]
      by_cases hpp : p = 12 * a i + b i
      · rw [if_pos hpp, if_pos (by simp [hpp]), ← hpp, hs p hp]
        omega
      · rw [if_neg hpp, if_neg (by simp; omega), hs p hp]
        omega)
    exact ⟨σ', q1, fun o h x ho => by rw [q2 o h x ho]; unfold fx_up; rw [if_neg (by omega)], q3⟩
theorem sp_countSizes (Rf Cf : Nat → Nat) (nc : Nat) {g N : Nat} {σ : fx_M} (a b : Nat → Nat) (hR : Rf g ≤ 12) (hN : N ≤ Rf g * Cf g) (hN2 : N ≤ 144) (h4 : σ 15 g 4 = N) (hab : ∀ j, j < N → σ 16 g j = a j ∧ σ 17 g j = b j ∧ 12 * a j + b j < 12 * Rf g) :
    ∃ σ', fx_Ca (fx_S Rf Cf nc) 16 [.inr (some (15, g))] σ = some (none, σ') ∧ (∀ o h x, ¬ (o = 19 ∧ h = g) → σ' o h x = σ o h x) ∧ ∀ p, p < 12 * Rf g → σ' 19 g p = cntP N (fun j => decide (12 * a j + b j = p)) := by
  have e := sp_fill Rf Cf nc 19 g (12 * Rf g) rfl rfl (by omega) 0 σ
  obtain ⟨σ', q1, q2, q3⟩ := sp_cs_lp Rf Cf nc a b hR hN hN2 N 0 (fx_fr σ 19 g 0 (12 * Rf g) (fun _ => 0)) (by omega) (by unfold fx_fr; rw [if_neg (by omega)]; exact h4) (fun j hj => by unfold fx_fr; rw [if_neg (by omega), if_neg (by omega)]; exact hab j hj) (fun p hp => by unfold fx_fr; rw [if_pos (by omega)]; rfl)
  refine ⟨σ', ?_, fun o h x ho => ?_, q3⟩
  · rw [entX0_countSizes]
    simp only [eX0_countSizes_0, eX0_countSizes_1, eX0_countSizes_4, eX0_countSizes_5, eX0_countSizes_8, eX0_countSizes_9, eX0_countSizes_11, eX0_countSizes_12, eX0_countSizes_15, eX0_countSizes_18, eX0_countSizes_19, eX0_countSizes_22, eX0_countSizes_23, eX0_countSizes_26, eX0_countSizes_27, eX0_countSizes_28, eX0_countSizes_30, eX0_countSizes_31, eX0_countSizes_32, eX0_countSizes_35, eX0_countSizes_36, eX0_countSizes_37, eX0_countSizes_38, eX0_countSizes_39, eX0_countSizes_40, eX0_countSizes_41, eX0_countSizes_42, eX0_countSizes_43, eX0_countSizes_46, eX0_countSizes_49, fx_bd_some, Option.toList_some, Option.toList_none, List.nil_append, List.cons_append, fx_uo, fx_ui, Int.toNat_natCast, ↓reduceIte, Int.reduceEq, Int.reduceLT, Int.reduceLE, Int.reduceNeg, e]
    exact q1
  · rw [q2 o h x ho]
    unfold fx_fr
    rw [if_neg (by omega)]
theorem sp_trim_lp1 (Rf Cf : Nat → Nat) (nc : Nat) {g N : Nat} {σ : fx_M} (a b : Nat → Int) (hN : N ≤ Rf g * Cf g) (hN2 : N ≤ 144) (h4 : σ 15 g 4 = N) (hab : ∀ j, j < N → σ 16 g j = a j ∧ σ 17 g j = b j ∧ -1000 ≤ a j ∧ a j ≤ 1000 ∧ -1000 ≤ b j ∧ b j ≤ 1000) (r : Option fx_R)
    (hr : fx_E (fx_S Rf Cf nc) 15 84 [some (.inr (some (15, g))), some (.inl (mnI N (fun _ => true) a)), some (.inl (mxI N (fun _ => true) a)), some (.inl (mnI N (fun _ => true) b)), some (.inl (mxI N (fun _ => true) b)), some (.inl 0)] [] σ = r) :
    ∀ (d i : Nat) (x1 x2 x3 x4 : Int), i + d = N → x1 = mnI i (fun _ => true) a → x2 = mxI i (fun _ => true) a → x3 = mnI i (fun _ => true) b → x4 = mxI i (fun _ => true) b → fx_E (fx_S Rf Cf nc) 15 16 [some (.inr (some (15, g))), some (.inl x1), some (.inl x2), some (.inl x3), some (.inl x4), some (.inl (i : Int))] [] σ = r := by
  intro d
  induction d with
  | zero =>
    intro i x1 x2 x3 x4 h e1 e2 e3 e4
    obtain rfl : i = N := by omega
    rw [eX0_trim_16]
    simp (disch := omega) only [eX0_trim_0, eX0_trim_2, eX0_trim_3, eX0_trim_5, eX0_trim_6, eX0_trim_8, eX0_trim_9, eX0_trim_11, eX0_trim_13, eX0_trim_14, eX0_trim_18, eX0_trim_19, eX0_trim_22, eX0_trim_25, eX0_trim_26, eX0_trim_27, eX0_trim_30, eX0_trim_32, eX0_trim_33, eX0_trim_36, eX0_trim_37, eX0_trim_38, eX0_trim_39, eX0_trim_42, eX0_trim_44, eX0_trim_45, eX0_trim_48, eX0_trim_49, eX0_trim_50, eX0_trim_51, eX0_trim_54, eX0_trim_56, eX0_trim_57, eX0_trim_60, eX0_trim_61, eX0_trim_63, eX0_trim_64, eX0_trim_67, eX0_trim_69, eX0_trim_70, eX0_trim_73, eX0_trim_75, eX0_trim_78, eX0_trim_81, eX0_trim_82, eX0_trim_86, eX0_trim_87, eX0_trim_90, eX0_trim_93, eX0_trim_94, eX0_trim_97, eX0_trim_99, eX0_trim_100, eX0_trim_101, eX0_trim_102, eX0_trim_103, eX0_trim_104, eX0_trim_105, eX0_trim_108, eX0_trim_110, eX0_trim_111, eX0_trim_112, eX0_trim_113, eX0_trim_114, eX0_trim_115, eX0_trim_118, eX0_trim_121, eX0_trim_122, eX0_trim_123, eX0_trim_124, eX0_trim_125, eX0_trim_126, eX0_trim_127, eX0_trim_130, eX0_trim_131, eX0_trim_133, eX0_trim_134, eX0_trim_135, eX0_trim_136, eX0_trim_137, eX0_trim_140, fx_bd_some, Option.toList_some, Option.toList_none, List.nil_append, List.cons_append, fx_uo, fx_ui, Int.toNat_natCast, ↓reduceIte, Int.reduceEq, Int.reduceLT, Int.reduceLE, Int.reduceNeg, h4]
    rw [if_neg (by omega), e1, e2, e3, e4]
    exact hr
  | succ d ih =>
    intro i x1 x2 x3 x4 h e1 e2 e3 e4
    obtain ⟨f1, f2, f3, f4, f5, f6⟩ := hab i (by omega)
    have hi : ((i : Int) < (N : Int)) = True := by simp; omega
    have w1 := mnI_bd i (fun _ => true) a (fun j hj _ => (hab j (by omega)).2.2.1)
    have w2 := mxI_bd i (fun _ => true) a (fun j hj _ => (hab j (by omega)).2.2.2.1)
    have w3 := mnI_bd i (fun _ => true) b (fun j hj _ => (hab j (by omega)).2.2.2.2.1)
    have w4 := mxI_bd i (fun _ => true) b (fun j hj _ => (hab j (by omega)).2.2.2.2.2)
    rw [← e1] at w1
    rw [← e2] at w2
    rw [← e3] at w3
    rw [← e4] at w4
    rw [eX0_trim_16]
    simp (disch := omega) only [eX0_trim_0, eX0_trim_2, eX0_trim_3, eX0_trim_5, eX0_trim_6, eX0_trim_8, eX0_trim_9, eX0_trim_11, eX0_trim_13, eX0_trim_14, eX0_trim_18, eX0_trim_19, eX0_trim_22, eX0_trim_25, eX0_trim_26, eX0_trim_27, eX0_trim_30, eX0_trim_32, eX0_trim_33, eX0_trim_36, eX0_trim_37, eX0_trim_38, eX0_trim_39, eX0_trim_42, eX0_trim_44, eX0_trim_45, eX0_trim_48, eX0_trim_49, eX0_trim_50, eX0_trim_51, eX0_trim_54, eX0_trim_56, eX0_trim_57, eX0_trim_60, eX0_trim_61, eX0_trim_63, eX0_trim_64, eX0_trim_67, eX0_trim_69, eX0_trim_70, eX0_trim_73, eX0_trim_75, eX0_trim_78, eX0_trim_81, eX0_trim_82, eX0_trim_86, eX0_trim_87, eX0_trim_90, eX0_trim_93, eX0_trim_94, eX0_trim_97, eX0_trim_99, eX0_trim_100, eX0_trim_101, eX0_trim_102, eX0_trim_103, eX0_trim_104, eX0_trim_105, eX0_trim_108, eX0_trim_110, eX0_trim_111, eX0_trim_112, eX0_trim_113, eX0_trim_114, eX0_trim_115, eX0_trim_118, eX0_trim_121, eX0_trim_122, eX0_trim_123, eX0_trim_124, eX0_trim_125, eX0_trim_126, eX0_trim_127, eX0_trim_130, eX0_trim_131, eX0_trim_133, eX0_trim_134, eX0_trim_135, eX0_trim_136, eX0_trim_137, eX0_trim_140, fx_bd_some, Option.toList_some, Option.toList_none, List.nil_append, List.cons_append, fx_uo, fx_ui, Int.toNat_natCast, ↓reduceIte, Int.reduceEq, Int.reduceLT, Int.reduceLE, Int.reduceNeg, h4, hi, f1, f2]
    rw [show (i : Int) + 1 = ((i + 1 : Nat) : Int) by omega]
    refine ih (i + 1) _ _ _ _ (by omega) ?_ ?_ ?_ ?_
    · simp only [mnI, if_true]; rw [e1]
    · simp only [mxI, if_true]; rw [e2]
    · simp only [mnI, if_true]; rw [e3]
    · simp only [mxI, if_true]; rw [e4]
theorem sp_trim_lp2 (Rf Cf : Nat → Nat) (nc : Nat) {g N : Nat} (σ0 : fx_M) (hN : N ≤ Rf g * Cf g) (hN2 : N ≤ 144) (h4 : σ0 15 g 4 = N) (t bo l ri : Int) : ∀ (d i : Nat) (σ : fx_M), i + d = N → (∀ o h x, ¬ (h = g ∧ (o = 16 ∨ o = 17) ∧ x < i) → σ o h x = σ0 o h x) → (∀ j, j < i → σ 16 g j = σ0 16 g j - t ∧ σ 17 g j = σ0 17 g j - l) →
    ∃ σ', fx_E (fx_S Rf Cf nc) 15 84 [some (.inr (some (15, g))), some (.inl t), some (.inl bo), some (.inl l), some (.inl ri), some (.inl (i : Int))] [] σ = some (none, σ') ∧ (∀ o h x, ¬ (h = g ∧ (o = 16 ∨ o = 17) ∧ x < N) → ¬ (h = g ∧ o = 15 ∧ (x = 5 ∨ x = 6)) → σ' o h x = σ0 o h x) ∧ (∀ j, j < N → σ' 16 g j = σ0 16 g j - t ∧ σ' 17 g j = σ0 17 g j - l) ∧ σ' 15 g 5 = bo - t + 1 ∧ σ' 15 g 6 = ri - l + 1 := by
  intro d
  induction d with
  | zero =>
    intro i σ h hF hv
    obtain rfl : i = N := by omega
    have h4' : σ 15 g 4 = i := by rw [hF _ _ _ (by omega)]; exact h4
    rw [eX0_trim_84]
    simp (disch := omega) only [eX0_trim_0, eX0_trim_2, eX0_trim_3, eX0_trim_5, eX0_trim_6, eX0_trim_8, eX0_trim_9, eX0_trim_11, eX0_trim_13, eX0_trim_14, eX0_trim_18, eX0_trim_19, eX0_trim_22, eX0_trim_25, eX0_trim_26, eX0_trim_27, eX0_trim_30, eX0_trim_32, eX0_trim_33, eX0_trim_36, eX0_trim_37, eX0_trim_38, eX0_trim_39, eX0_trim_42, eX0_trim_44, eX0_trim_45, eX0_trim_48, eX0_trim_49, eX0_trim_50, eX0_trim_51, eX0_trim_54, eX0_trim_56, eX0_trim_57, eX0_trim_60, eX0_trim_61, eX0_trim_63, eX0_trim_64, eX0_trim_67, eX0_trim_69, eX0_trim_70, eX0_trim_73, eX0_trim_75, eX0_trim_78, eX0_trim_81, eX0_trim_82, eX0_trim_86, eX0_trim_87, eX0_trim_90, eX0_trim_93, eX0_trim_94, eX0_trim_97, eX0_trim_99, eX0_trim_100, eX0_trim_101, eX0_trim_102, eX0_trim_103, eX0_trim_104, eX0_trim_105, eX0_trim_108, eX0_trim_110, eX0_trim_111, eX0_trim_112, eX0_trim_113, eX0_trim_114, eX0_trim_115, eX0_trim_118, eX0_trim_121, eX0_trim_122, eX0_trim_123, eX0_trim_124, eX0_trim_125, eX0_trim_126, eX0_trim_127, eX0_trim_130, eX0_trim_131, eX0_trim_133, eX0_trim_134, eX0_trim_135, eX0_trim_136, eX0_trim_137, eX0_trim_140, fx_bd_some, Option.toList_some, Option.toList_none, List.nil_append, List.cons_append, fx_uo, fx_ui, Int.toNat_natCast, ↓reduceIte, Int.reduceEq, Int.reduceLT, Int.reduceLE, Int.reduceNeg, h4']
    rw [if_neg (by omega)]
    refine ⟨_, rfl, fun o h x h1 h2 => ?_, fun j hj => ?_, ?_, ?_⟩
    · unfold fx_up
      rw [if_neg (by omega), if_neg (by omega)]
      exact hF o h x h1
    · rw [fx_uo (by omega), fx_uo (by omega), fx_uo (by omega), fx_uo (by omega)]
      exact hv j hj
    · rw [fx_ui, if_neg (by omega), fx_ui, if_pos rfl]
    · rw [fx_ui, if_pos rfl]
  | succ d ih =>
    intro i σ h hF hv
    have h4' : σ 15 g 4 = N := by rw [hF _ _ _ (by omega)]; exact h4
    have f1 : σ 16 g i = σ0 16 g i := hF _ _ _ (by omega)
    have f2 : σ 17 g i = σ0 17 g i := hF _ _ _ (by omega)
    have hi : ((i : Int) < (N : Int)) = True := by simp; omega
    rw [eX0_trim_84]
    simp (disch := omega) only [eX0_trim_0, eX0_trim_2, eX0_trim_3, eX0_trim_5, eX0_trim_6, eX0_trim_8, eX0_trim_9, eX0_trim_11, eX0_trim_13, eX0_trim_14, eX0_trim_18, eX0_trim_19, eX0_trim_22, eX0_trim_25, eX0_trim_26, eX0_trim_27, eX0_trim_30, eX0_trim_32, eX0_trim_33, eX0_trim_36, eX0_trim_37, eX0_trim_38, eX0_trim_39, eX0_trim_42, eX0_trim_44, eX0_trim_45, eX0_trim_48, eX0_trim_49, eX0_trim_50, eX0_trim_51, eX0_trim_54, eX0_trim_56, eX0_trim_57, eX0_trim_60, eX0_trim_61, eX0_trim_63, eX0_trim_64, eX0_trim_67, eX0_trim_69, eX0_trim_70, eX0_trim_73, eX0_trim_75, eX0_trim_78, eX0_trim_81, eX0_trim_82, eX0_trim_86, eX0_trim_87, eX0_trim_90, eX0_trim_93, eX0_trim_94, eX0_trim_97, eX0_trim_99, eX0_trim_100, eX0_trim_101, eX0_trim_102, eX0_trim_103, eX0_trim_104, eX0_trim_105, eX0_trim_108, eX0_trim_110, eX0_trim_111, eX0_trim_112, eX0_trim_113, eX0_trim_114, eX0_trim_115, eX0_trim_118, eX0_trim_121, eX0_trim_122, eX0_trim_123, eX0_trim_124, eX0_trim_125, eX0_trim_126, eX0_trim_127, eX0_trim_130, eX0_trim_131, eX0_trim_133, eX0_trim_134, eX0_trim_135, eX0_trim_136, eX0_trim_137, eX0_trim_140, fx_bd_some, Option.toList_some, Option.toList_none, List.nil_append, List.cons_append, fx_uo, fx_ui, Int.toNat_natCast, ↓reduceIte, Int.reduceEq, Int.reduceLT, Int.reduceLE, Int.reduceNeg, h4', hi, f1, f2]
    rw [show (i : Int) + 1 = ((i + 1 : Nat) : Int) by omega]
    refine ih (i + 1) _ (by omega) (fun o h x ho => ?_) (fun j hj => ?_)
    · unfold fx_up
      rw [if_neg (by omega), if_neg (by omega)]
      exact hF o h x (by omega)
    · rw [fx_uo (by omega), fx_ui, fx_ui, fx_uo (by omega)]
      by_cases hji : j = i
      · subst hji
        rw [if_pos rfl, if_pos rfl]
        exact ⟨rfl, rfl⟩
      · rw [if_neg hji, if_neg hji]
        exact hv j (by omega)
theorem sp_trim (Rf Cf : Nat → Nat) (nc : Nat) {g N : Nat} {σ : fx_M} (a b : Nat → Int) (hN : N ≤ Rf g * Cf g) (hN2 : N ≤ 144) (h4 : σ 15 g 4 = N) (hab : ∀ j, j < N → σ 16 g j = a j ∧ σ 17 g j = b j ∧ -1000 ≤ a j ∧ a j ≤ 1000 ∧ -1000 ≤ b j ∧ b j ≤ 1000) :
    ∃ σ', fx_Ca (fx_S Rf Cf nc) 15 [.inr (some (15, g))] σ = some (none, σ') ∧ (∀ o h x, ¬ (h = g ∧ (o = 16 ∨ o = 17) ∧ x < N) → ¬ (h = g ∧ o = 15 ∧ (x = 5 ∨ x = 6)) → σ' o h x = σ o h x) ∧ (∀ j, j < N → σ' 16 g j = a j - mnI N (fun _ => true) a ∧ σ' 17 g j = b j - mnI N (fun _ => true) b) ∧ σ' 15 g 5 = mxI N (fun _ => true) a - mnI N (fun _ => true) a + 1 ∧ σ' 15 g 6 = mxI N (fun _ => true) b - mnI N (fun _ => true) b + 1 := by
  obtain ⟨σ', q1, q2, q3, q4, q5⟩ := sp_trim_lp2 Rf Cf nc σ hN hN2 h4 (mnI N (fun _ => true) a) (mxI N (fun _ => true) a) (mnI N (fun _ => true) b) (mxI N (fun _ => true) b) N 0 σ (by omega) (fun _ _ _ _ => rfl) (fun j hj => by omega)
  refine ⟨σ', ?_, q2, fun j hj => ?_, q4, q5⟩
  · rw [entX0_trim]
    simp only [eX0_trim_0, eX0_trim_2, eX0_trim_3, eX0_trim_5, eX0_trim_6, eX0_trim_8, eX0_trim_9, eX0_trim_11, eX0_trim_13, eX0_trim_14, eX0_trim_18, eX0_trim_19, eX0_trim_22, eX0_trim_25, eX0_trim_26, eX0_trim_27, eX0_trim_30, eX0_trim_32, eX0_trim_33, eX0_trim_36, eX0_trim_37, eX0_trim_38, eX0_trim_39, eX0_trim_42, eX0_trim_44, eX0_trim_45, eX0_trim_48, eX0_trim_49, eX0_trim_50, eX0_trim_51, eX0_trim_54, eX0_trim_56, eX0_trim_57, eX0_trim_60, eX0_trim_61, eX0_trim_63, eX0_trim_64, eX0_trim_67, eX0_trim_69, eX0_trim_70, eX0_trim_73, eX0_trim_75, eX0_trim_78, eX0_trim_81, eX0_trim_82, eX0_trim_86, eX0_trim_87, eX0_trim_90, eX0_trim_93, eX0_trim_94, eX0_trim_97, eX0_trim_99, eX0_trim_100, eX0_trim_101, eX0_trim_102, eX0_trim_103, eX0_trim_104, eX0_trim_105, eX0_trim_108, eX0_trim_110, eX0_trim_111, eX0_trim_112, eX0_trim_113, eX0_trim_114, eX0_trim_115, eX0_trim_118, eX0_trim_121, eX0_trim_122, eX0_trim_123, eX0_trim_124, eX0_trim_125, eX0_trim_126, eX0_trim_127, eX0_trim_130, eX0_trim_131, eX0_trim_133, eX0_trim_134, eX0_trim_135, eX0_trim_136, eX0_trim_137, eX0_trim_140]
    exact sp_trim_lp1 Rf Cf nc a b hN hN2 h4 hab _ q1 N 0 _ _ _ _ (by omega) rfl rfl rfl rfl
  · rw [(q3 j hj).1, (q3 j hj).2, (hab j hj).1, (hab j hj).2.1]
    exact ⟨rfl, rfl⟩
/-! a fold's loop over the cells -/
def cHt (R C br bc : Nat) (pr pc ph : Nat → Nat) (kd ln how k : Nat) : Int := if mvB kd ln (pr k) (pc k) = true then (if how = 0 then (mts R C br bc pr pc kd ln (pr k) (pc k) : Int) else 0) + ((siz R C pr pc (12 * pr k + pc k) : Int) - 1 - ph k) else if how = 1 then (ph k : Int) + mts R C br bc pr pc kd ln (pr k) (pc k) else ph k
theorem nR_rA {kd ln : Nat} {pr pc : Nat → Nat} {k : Nat} (h : kd < 3) : nR kd ln pr pc k = if mvB kd ln (pr k) (pc k) = true then rA kd ln (pr k) (pc k) else pr k := by
  unfold nR fRo rA
  rcases (show kd = 0 ∨ kd = 1 ∨ kd = 2 by omega) with rfl | rfl | rfl <;> simp
theorem nC_cA {kd ln : Nat} {pr pc : Nat → Nat} {k : Nat} (h : kd < 3) : nC kd ln pr pc k = if mvB kd ln (pr k) (pc k) = true then cA kd ln (pr k) (pc k) else pc k := by
  unfold nC fCo cA
  rcases (show kd = 0 ∨ kd = 1 ∨ kd = 2 by omega) with rfl | rfl | rfl <;> simp
theorem sp_crease_lp1 (Rf Cf : Nat → Nat) (nc : Nat) {g R C br bc : Nat} {pr pc ph : Nat → Nat} (hB : BW R C br bc pr pc ph) (σ0 : fx_M) (hC0 : CB Rf Cf g R C br bc pr pc ph σ0) (kd ln how : Nat) (hk : kd < 3) (hl : ln < 100) (hh : how < 2) :
    ∀ (d i : Nat) (σ : fx_M) (u5 u6 u7 u8 : Option fx_V), i + d = R * C → (∀ o h x, ¬ (h = g ∧ (o = 16 ∨ o = 17 ∨ o = 18) ∧ x < i) → σ o h x = σ0 o h x) → (∀ j, j < i → σ 16 g j = nR kd ln pr pc (ki C j) ∧ σ 17 g j = nC kd ln pr pc (ki C j) ∧ σ 18 g j = cHt R C br bc pr pc ph kd ln how (ki C j)) →
    ∃ (σ' : fx_M) (v5 v6 v7 v8 : Option fx_V), fx_E (fx_S Rf Cf nc) 10 3 [some (.inr (some (15, g))), some (.inl (kd : Int)), some (.inl (ln : Int)), some (.inl (how : Int)), some (.inl (i : Int)), u5, u6, u7, u8] [] σ = fx_E (fx_S Rf Cf nc) 10 153 [some (.inr (some (15, g))), some (.inl (kd : Int)), some (.inl (ln : Int)), some (.inl (how : Int)), some (.inl ((R * C : Nat) : Int)), v5, v6, v7, v8] [] σ' ∧ (∀ o h x, ¬ (h = g ∧ (o = 16 ∨ o = 17 ∨ o = 18) ∧ x < R * C) → σ' o h x = σ0 o h x) ∧ (∀ j, j < R * C → σ' 16 g j = nR kd ln pr pc (ki C j) ∧ σ' 17 g j = nC kd ln pr pc (ki C j) ∧ σ' 18 g j = cHt R C br bc pr pc ph kd ln how (ki C j)) := by
  obtain ⟨⟨b1, b2⟩, ⟨b3, b4⟩, ⟨b5, b6⟩, ⟨b7, b8⟩, b9, b10, b11⟩ := id hB
  obtain ⟨⟨a1, a2, a3⟩, c1, c2, c3, c4, c5⟩ := id hC0
  have hN : R * C ≤ 144 := Nat.mul_le_mul b2 b4
  intro d
  induction d with
  | zero =>
    intro i σ u5 u6 u7 u8 h hF hv
    obtain rfl : i = R * C := by omega
    have h4 : σ 15 g 4 = ((R * C : Nat) : Int) := by rw [hF _ _ _ (by omega)]; exact c1
    rw [eX0_crease_3]
    simp (disch := omega) only [eX0_crease_0, eX0_crease_1, eX0_crease_5, eX0_crease_6, eX0_crease_9, eX0_crease_12, eX0_crease_13, eX0_crease_16, eX0_crease_18, eX0_crease_19, eX0_crease_21, eX0_crease_22, eX0_crease_25, eX0_crease_27, eX0_crease_28, eX0_crease_30, eX0_crease_31, eX0_crease_32, eX0_crease_33, eX0_crease_35, eX0_crease_37, eX0_crease_40, eX0_crease_42, eX0_crease_43, eX0_crease_44, eX0_crease_46, eX0_crease_48, eX0_crease_51, eX0_crease_54, eX0_crease_55, eX0_crease_57, eX0_crease_59, eX0_crease_62, eX0_crease_63, eX0_crease_64, eX0_crease_65, eX0_crease_68, eX0_crease_70, eX0_crease_71, eX0_crease_72, eX0_crease_74, eX0_crease_75, eX0_crease_78, eX0_crease_80, eX0_crease_81, eX0_crease_84, eX0_crease_86, eX0_crease_88, eX0_crease_89, eX0_crease_92, eX0_crease_94, eX0_crease_95, eX0_crease_96, eX0_crease_99, eX0_crease_101, eX0_crease_102, eX0_crease_103, eX0_crease_105, eX0_crease_107, eX0_crease_110, eX0_crease_111, eX0_crease_112, eX0_crease_115, eX0_crease_117, eX0_crease_118, eX0_crease_119, eX0_crease_121, eX0_crease_123, eX0_crease_126, eX0_crease_127, eX0_crease_130, eX0_crease_131, eX0_crease_132, eX0_crease_135, eX0_crease_136, eX0_crease_139, eX0_crease_141, eX0_crease_142, eX0_crease_143, eX0_crease_145, eX0_crease_146, eX0_crease_147, eX0_crease_150, eX0_crease_154, eX0_crease_157, eX0_crease_158, eX0_crease_161, fx_bd_some, Option.toList_some, Option.toList_none, List.nil_append, List.cons_append, fx_uo, fx_ui, Int.toNat_natCast, ↓reduceIte, Int.reduceEq, Int.reduceLT, Int.reduceLE, Int.reduceNeg, h4]
    rw [if_neg (by omega)]
    exact ⟨σ, u5, u6, u7, u8, rfl, hF, hv⟩
  | succ d ih =>
    intro i σ u5 u6 u7 u8 h hF hv
    have hiN : i < R * C := by omega
    have hkc := ki_C b3 b4 hiN
    have hkl := ki_lt b2 b3 b4 hiN
    obtain ⟨g1, g2, g3⟩ := b9 (ki C i) hkl hkc
    have g4 := b10 (12 * pr (ki C i) + pc (ki C i))
    have h4 : σ 15 g 4 = ((R * C : Nat) : Int) := by rw [hF _ _ _ (by omega)]; exact c1
    have f1 : σ 16 g i = pr (ki C i) := by rw [hF _ _ _ (by omega)]; exact (c4 i hiN).1
    have f2 : σ 17 g i = pc (ki C i) := by rw [hF _ _ _ (by omega)]; exact (c4 i hiN).2.1
    have f3 : σ 18 g i = ph (ki C i) := by rw [hF _ _ _ (by omega)]; exact (c4 i hiN).2.2
    have hcs : CS Rf g R C br bc pr pc σ := hC0.cs.of (hF _ _ _ (by omega)) (hF _ _ _ (by omega)) (fun p hp => hF _ _ _ (by omega))
    have e1 := sp_matesOf Rf Cf nc hB hcs kd ln (pr (ki C i)) (pc (ki C i)) hk hl (by omega) (by omega)
    have e2 := sp_comesB Rf Cf nc σ kd ln (pr (ki C i)) (pc (ki C i)) hk hl (by omega) (by omega)
    have e3 := sp_sizeAt Rf Cf nc hB hcs (pr (ki C i)) (pc (ki C i)) (by omega) (by omega)
    have hsz : szA R C br bc pr pc (pr (ki C i)) (pc (ki C i)) = siz R C pr pc (12 * pr (ki C i) + pc (ki C i)) := by
      unfold szA
      rw [if_pos (by omega)]
      simp
    rw [hsz] at e3
    have m1 := mts_le R C br bc pr pc kd ln (pr (ki C i)) (pc (ki C i))
    have hi : ((i : Int) < ((R * C : Nat) : Int)) = True := by simp; omega
    have e4 := fun τ => sp_rowAcross Rf Cf nc τ kd ln (pr (ki C i)) (pc (ki C i)) hk
    have e5 := fun τ => sp_columnAcross Rf Cf nc τ kd ln (pr (ki C i)) (pc (ki C i)) hk
    have fin : ∀ (τ : fx_M) (u5 u6 u7 u8 : Option fx_V), (∀ o h x, ¬ (h = g ∧ (o = 16 ∨ o = 17 ∨ o = 18) ∧ x = i) → τ o h x = σ o h x) → τ 16 g i = nR kd ln pr pc (ki C i) → τ 17 g i = nC kd ln pr pc (ki C i) → τ 18 g i = cHt R C br bc pr pc ph kd ln how (ki C i) → ∃ (σ' : fx_M) (v5 v6 v7 v8 : Option fx_V), fx_E (fx_S Rf Cf nc) 10 3 [some (.inr (some (15, g))), some (.inl (kd : Int)), some (.inl (ln : Int)), some (.inl (how : Int)), some (.inl ((i : Int) + 1)), u5, u6, u7, u8] [] τ = fx_E (fx_S Rf Cf nc) 10 153 [some (.inr (some (15, g))), some (.inl (kd : Int)), some (.inl (ln : Int)), some (.inl (how : Int)), some (.inl ((R * C : Nat) : Int)), v5, v6, v7, v8] [] σ' ∧ (∀ o h x, ¬ (h = g ∧ (o = 16 ∨ o = 17 ∨ o = 18) ∧ x < R * C) → σ' o h x = σ0 o h x) ∧ (∀ j, j < R * C → σ' 16 g j = nR kd ln pr pc (ki C j) ∧ σ' 17 g j = nC kd ln pr pc (ki C j) ∧ σ' 18 g j = cHt R C br bc pr pc ph kd ln how (ki C j)) := by
      intro τ u5 u6 u7 u8 h1 h2 h3 h5
      rw [show (i : Int) + 1 = ((i + 1 : Nat) : Int) by omega]
      refine ih (i + 1) τ u5 u6 u7 u8 (by omega) (fun o h x ho => by rw [h1 o h x (by omega)]; exact hF o h x (by omega)) (fun j hj => ?_)
      by_cases hji : j = i
      · subst hji; exact ⟨h2, h3, h5⟩
      · rw [h1 _ _ _ (by omega), h1 _ _ _ (by omega), h1 _ _ _ (by omega)]
        exact hv j (by omega)
    rw [eX0_crease_3]
    cases hm : mvB kd ln (pr (ki C i)) (pc (ki C i)) with
    | true =>
      rw [hm, if_pos rfl] at e2
      simp (disch := omega) only [eX0_crease_0, eX0_crease_1, eX0_crease_5, eX0_crease_6, eX0_crease_9, eX0_crease_12, eX0_crease_13, eX0_crease_16, eX0_crease_18, eX0_crease_19, eX0_crease_21, eX0_crease_22, eX0_crease_25, eX0_crease_27, eX0_crease_28, eX0_crease_30, eX0_crease_31, eX0_crease_32, eX0_crease_33, eX0_crease_35, eX0_crease_37, eX0_crease_40, eX0_crease_42, eX0_crease_43, eX0_crease_44, eX0_crease_46, eX0_crease_48, eX0_crease_51, eX0_crease_54, eX0_crease_55, eX0_crease_57, eX0_crease_59, eX0_crease_62, eX0_crease_63, eX0_crease_64, eX0_crease_65, eX0_crease_68, eX0_crease_70, eX0_crease_71, eX0_crease_72, eX0_crease_74, eX0_crease_75, eX0_crease_78, eX0_crease_80, eX0_crease_81, eX0_crease_84, eX0_crease_86, eX0_crease_88, eX0_crease_89, eX0_crease_92, eX0_crease_94, eX0_crease_95, eX0_crease_96, eX0_crease_99, eX0_crease_101, eX0_crease_102, eX0_crease_103, eX0_crease_105, eX0_crease_107, eX0_crease_110, eX0_crease_111, eX0_crease_112, eX0_crease_115, eX0_crease_117, eX0_crease_118, eX0_crease_119, eX0_crease_121, eX0_crease_123, eX0_crease_126, eX0_crease_127, eX0_crease_130, eX0_crease_131, eX0_crease_132, eX0_crease_135, eX0_crease_136, eX0_crease_139, eX0_crease_141, eX0_crease_142, eX0_crease_143, eX0_crease_145, eX0_crease_146, eX0_crease_147, eX0_crease_150, eX0_crease_154, eX0_crease_157, eX0_crease_158, eX0_crease_161, fx_bd_some, Option.toList_some, Option.toList_none, List.nil_append, List.cons_append, fx_uo, fx_ui, Int.toNat_natCast, ↓reduceIte, Int.reduceEq, Int.reduceLT, Int.reduceLE, Int.reduceNeg, h4, hi, f1, f2, f3, e1, e2, e3, e4, e5]
      (repeat' split)
      all_goals
        refine fin _ _ _ _ _ (fun o h x ho => ?_) ?_ ?_ ?_
        · unfold fx_up
          rw [if_neg (by omega), if_neg (by omega), if_neg (by omega)]
        · rw [fx_uo (by omega), fx_ui, if_pos rfl, nR_rA hk, if_pos hm]
        · rw [fx_ui, if_pos rfl, nC_cA hk, if_pos hm]
        · rw [fx_uo (by omega), fx_uo (by omega), fx_ui, if_pos rfl]
          unfold cHt
          rw [if_pos hm]
          split <;> omega
    | false =>
      rw [hm, if_neg (by simp)] at e2
      simp (disch := omega) only [eX0_crease_0, eX0_crease_1, eX0_crease_5, eX0_crease_6, eX0_crease_9, eX0_crease_12, eX0_crease_13, eX0_crease_16, eX0_crease_18, eX0_crease_19, eX0_crease_21, eX0_crease_22, eX0_crease_25, eX0_crease_27, eX0_crease_28, eX0_crease_30, eX0_crease_31, eX0_crease_32, eX0_crease_33, eX0_crease_35, eX0_crease_37, eX0_crease_40, eX0_crease_42, eX0_crease_43, eX0_crease_44, eX0_crease_46, eX0_crease_48, eX0_crease_51, eX0_crease_54, eX0_crease_55, eX0_crease_57, eX0_crease_59, eX0_crease_62, eX0_crease_63, eX0_crease_64, eX0_crease_65, eX0_crease_68, eX0_crease_70, eX0_crease_71, eX0_crease_72, eX0_crease_74, eX0_crease_75, eX0_crease_78, eX0_crease_80, eX0_crease_81, eX0_crease_84, eX0_crease_86, eX0_crease_88, eX0_crease_89, eX0_crease_92, eX0_crease_94, eX0_crease_95, eX0_crease_96, eX0_crease_99, eX0_crease_101, eX0_crease_102, eX0_crease_103, eX0_crease_105, eX0_crease_107, eX0_crease_110, eX0_crease_111, eX0_crease_112, eX0_crease_115, eX0_crease_117, eX0_crease_118, eX0_crease_119, eX0_crease_121, eX0_crease_123, eX0_crease_126, eX0_crease_127, eX0_crease_130, eX0_crease_131, eX0_crease_132, eX0_crease_135, eX0_crease_136, eX0_crease_139, eX0_crease_141, eX0_crease_142, eX0_crease_143, eX0_crease_145, eX0_crease_146, eX0_crease_147, eX0_crease_150, eX0_crease_154, eX0_crease_157, eX0_crease_158, eX0_crease_161, fx_bd_some, Option.toList_some, Option.toList_none, List.nil_append, List.cons_append, fx_uo, fx_ui, Int.toNat_natCast, ↓reduceIte, Int.reduceEq, Int.reduceLT, Int.reduceLE, Int.reduceNeg, h4, hi, f1, f2, f3, e1, e2, e3, e4, e5]
      (repeat' split)
      · refine fin _ _ _ _ _ (fun o h x ho => ?_) ?_ ?_ ?_
        · unfold fx_up
          rw [if_neg (by omega)]
        · rw [fx_uo (by omega), f1, nR_rA hk, if_neg (by rw [hm]; simp)]
        · rw [fx_uo (by omega), f2, nC_cA hk, if_neg (by rw [hm]; simp)]
        · rw [fx_ui, if_pos rfl]
          unfold cHt
          rw [if_neg (by rw [hm]; simp), if_pos (by omega)]
      · refine fin _ _ _ _ _ (fun o h x ho => rfl) ?_ ?_ ?_
        · rw [f1, nR_rA hk, if_neg (by rw [hm]; simp)]
        · rw [f2, nC_cA hk, if_neg (by rw [hm]; simp)]
        · rw [f3]
          unfold cHt
          rw [if_neg (by rw [hm]; simp), if_neg (by omega)]
