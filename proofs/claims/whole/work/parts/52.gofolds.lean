/-! the reference's search: all folds -/
theorem allH_lt {kd ln h : Nat} (q : h < 2) : allH kd ln h = (kd, ln, h) :: allH kd ln (h + 1) := by unfold allH; rw [rng_lt q]; rfl
theorem allH_ge {kd ln h : Nat} (q : 2 ≤ h) : allH kd ln h = [] := by unfold allH; rw [rng_ge q]; rfl
theorem allN_lt {kd ln : Nat} (q : ln < hi kd) : allN kd ln = allH kd ln 0 ++ allN kd (ln + 1) := by unfold allN; rw [rng_lt q]; rfl
theorem allN_ge {kd ln : Nat} (q : hi kd ≤ ln) : allN kd ln = [] := by unfold allN; rw [rng_ge q]; rfl
theorem allF_lt {kd : Nat} (q : kd < 3) : allF kd = allN kd (lo kd) ++ allF (kd + 1) := by unfold allF; rw [rng_lt q]; rfl
theorem allF_ge {kd : Nat} (q : 3 ≤ kd) : allF kd = [] := by unfold allF; rw [rng_ge q]; rfl
section GF0
variable {many : Nat} {bo : Bool} {Pre : fx_M → Prop} {Lf : Nat × Nat × Nat → List (Nat × Wy)}
def HC0 (Rf Cf : Nat → Nat) (nc many : Nat) (bo : Bool) (Pre : fx_M → Prop) (Lf : Nat × Nat × Nat → List (Nat × Wy)) : Prop := (∀ σ σ', Pre σ → (∃ l, MT 3 σ σ' l) → Pre σ') ∧ ∀ (f : Nat × Nat × Nat) (σ : fx_M) (l : Nat), f.1 < 3 → f.2.1 < 4 → f.2.2 < 2 → Pre σ → σ 59 0 0 = (f.1 : Int) → σ 60 0 0 = (f.2.1 : Int) → σ 61 0 0 = (f.2.2 : Int) → 0 < l → l ≤ 1000000 → σ 20 0 39 = (l : Int) → MRes 3 σ l (Lf f) (fx_Ca (fx_S Rf Cf nc) 122 [.inr (some (20, 0)), .inl 1, .inl (many : Int), .inl (if bo then 1 else 0)] σ) F1 K0
theorem gf0_h (Rf Cf : Nat → Nat) (nc : Nat) (hC : HC0 Rf Cf nc many bo Pre Lf) {kd ln : Nat} (hkd : kd < 3) (hln : ln < 4) :
    ∀ (d h l : Nat) (σ : fx_M), h + d = 2 → Pre σ → 0 < l → l ≤ 1000000 → σ 20 0 39 = (l : Int) →
    MRes 3 σ l ((allH kd ln h).flatMap Lf) (fx_E (fx_S Rf Cf nc) 121 53 [some (.inr (some (20, 0))), some (.inl 0), some (.inl (many : Int)), some (.inl (if bo then 1 else 0)), some (.inl (kd : Int)), some (.inl (ln : Int)), some (.inl (h : Int))] [] σ) F1 (fun σ' X => ∃ v6, X = fx_E (fx_S Rf Cf nc) 121 34 [some (.inr (some (20, 0))), some (.inl 0), some (.inl (many : Int)), some (.inl (if bo then 1 else 0)), some (.inl (kd : Int)), some (.inl ((ln + 1 : Nat) : Int)), v6] [] σ') := by
  intro d
  induction d with
  | zero =>
    intro h l σ hd hP hl0 hl h39
    obtain rfl : h = 2 := by omega
    rw [allH_ge (by omega), List.flatMap_nil]
    refine MRes.nil h39 ⟨some (.inl 2), ?_⟩
    rw [eX7_goFolds_53]
    simp (disch := omega) only [eX7_goFolds_0, eX7_goFolds_1, eX7_goFolds_2, eX7_goFolds_5, eX7_goFolds_6, eX7_goFolds_7, eX7_goFolds_8, eX7_goFolds_11, eX7_goFolds_12, eX7_goFolds_13, eX7_goFolds_17, eX7_goFolds_18, eX7_goFolds_21, eX7_goFolds_23, eX7_goFolds_24, eX7_goFolds_27, eX7_goFolds_28, eX7_goFolds_31, eX7_goFolds_32, eX7_goFolds_36, eX7_goFolds_38, eX7_goFolds_39, eX7_goFolds_42, eX7_goFolds_43, eX7_goFolds_46, eX7_goFolds_47, eX7_goFolds_50, eX7_goFolds_51, eX7_goFolds_55, eX7_goFolds_56, eX7_goFolds_59, eX7_goFolds_60, eX7_goFolds_63, eX7_goFolds_64, eX7_goFolds_66, eX7_goFolds_67, eX7_goFolds_68, eX7_goFolds_71, eX7_goFolds_72, eX7_goFolds_74, eX7_goFolds_75, eX7_goFolds_76, eX7_goFolds_79, eX7_goFolds_80, eX7_goFolds_82, eX7_goFolds_83, eX7_goFolds_84, eX7_goFolds_85, eX7_goFolds_86, eX7_goFolds_87, eX7_goFolds_88, eX7_goFolds_89, eX7_goFolds_92, eX7_goFolds_95, eX7_goFolds_96, eX7_goFolds_97, eX7_goFolds_100, eX7_goFolds_103, eX7_goFolds_106, eX7_goFolds_109, eX7_goFolds_112, eX7_goFolds_115, eX7_goFolds_116, fx_bd_some, Option.toList_some, Option.toList_none, List.nil_append, List.cons_append, fx_uo, fx_ui, Int.toNat_natCast, ↓reduceIte, Int.reduceEq, Int.reduceLT, Int.reduceLE, Int.reduceNeg]
    rw [if_neg (by omega), show (ln : Int) + 1 = ((ln + 1 : Nat) : Int) by omega]
    rfl
  | succ d ih =>
    intro h l σ hd hP hl0 hl h39
    rw [allH_lt (by omega), List.flatMap_cons]
    obtain ⟨τ, hτ⟩ : ∃ τ, τ = fx_up (fx_up (fx_up σ 59 0 0 kd) 60 0 0 ln) 61 0 0 h := ⟨_, rfl⟩
    have fτ : ∀ o k x, ¬ (k = 0 ∧ 59 ≤ o ∧ o ≤ 61 ∧ x = 0) → τ o k x = σ o k x := fun o k x q => by
      rw [hτ]; unfold fx_up
      rw [if_neg (by omega), if_neg (by omega), if_neg (by omega)]
    have v1 : τ 59 0 0 = (kd : Int) := by rw [hτ]; simp [fx_up]
    have v2 : τ 60 0 0 = (ln : Int) := by rw [hτ]; simp [fx_up]
    have v3 : τ 61 0 0 = (h : Int) := by rw [hτ]; simp [fx_up]
    have hM0 : MT 3 σ τ l := ⟨fun o k x q => fτ o k x (by omega), by rw [fτ _ _ _ (by omega)]; exact h39⟩
    have hr := MRes.pre hM0 (hC.2 (kd, ln, h) τ l hkd hln (show h < 2 by omega) (hC.1 σ τ hP ⟨l, hM0⟩) v1 v2 v3 hl0 hl hM0.2)
    obtain ⟨X, hX⟩ : ∃ X, X = fx_Ca (fx_S Rf Cf nc) 122 [.inr (some (20, 0)), .inl 1, .inl (many : Int), .inl (if bo then 1 else 0)] τ := ⟨_, rfl⟩
    rw [← hX] at hr
    have eE : fx_E (fx_S Rf Cf nc) 121 53 [some (.inr (some (20, 0))), some (.inl 0), some (.inl (many : Int)), some (.inl (if bo then 1 else 0)), some (.inl (kd : Int)), some (.inl (ln : Int)), some (.inl (h : Int))] [] σ = fx_bd X (fun v σ' => fx_E (fx_S Rf Cf nc) 121 92 [some (.inr (some (20, 0))), some (.inl 0), some (.inl (many : Int)), some (.inl (if bo then 1 else 0)), some (.inl (kd : Int)), some (.inl (ln : Int)), some (.inl (h : Int))] (v.toList ++ []) σ') := by
      rw [hX, hτ, eX7_goFolds_53]
      simp (disch := omega) only [eX7_goFolds_0, eX7_goFolds_1, eX7_goFolds_2, eX7_goFolds_5, eX7_goFolds_6, eX7_goFolds_7, eX7_goFolds_8, eX7_goFolds_11, eX7_goFolds_12, eX7_goFolds_13, eX7_goFolds_17, eX7_goFolds_18, eX7_goFolds_21, eX7_goFolds_23, eX7_goFolds_24, eX7_goFolds_27, eX7_goFolds_28, eX7_goFolds_31, eX7_goFolds_32, eX7_goFolds_36, eX7_goFolds_38, eX7_goFolds_39, eX7_goFolds_42, eX7_goFolds_43, eX7_goFolds_46, eX7_goFolds_47, eX7_goFolds_50, eX7_goFolds_51, eX7_goFolds_55, eX7_goFolds_56, eX7_goFolds_59, eX7_goFolds_60, eX7_goFolds_63, eX7_goFolds_64, eX7_goFolds_66, eX7_goFolds_67, eX7_goFolds_68, eX7_goFolds_71, eX7_goFolds_72, eX7_goFolds_74, eX7_goFolds_75, eX7_goFolds_76, eX7_goFolds_79, eX7_goFolds_80, eX7_goFolds_82, eX7_goFolds_83, eX7_goFolds_84, eX7_goFolds_85, eX7_goFolds_86, eX7_goFolds_87, eX7_goFolds_88, eX7_goFolds_89, eX7_goFolds_95, eX7_goFolds_96, eX7_goFolds_97, eX7_goFolds_100, eX7_goFolds_103, eX7_goFolds_106, eX7_goFolds_109, eX7_goFolds_112, eX7_goFolds_115, eX7_goFolds_116, ↓reduceIte, Int.reduceAdd, Int.reduceToNat, Int.reduceLT]
      rw [if_pos (by omega)]
    refine MRes.bind hl0 (MRes.mp (Y := fx_E (fx_S Rf Cf nc) 121 53 [some (.inr (some (20, 0))), some (.inl 0), some (.inl (many : Int)), some (.inl (if bo then 1 else 0)), some (.inl (kd : Int)), some (.inl (ln : Int)), some (.inl (h : Int))] [] σ) (Fq := F1) (Kq := fun σ' Y => Y = fx_E (fx_S Rf Cf nc) 121 53 [some (.inr (some (20, 0))), some (.inl 0), some (.inl (many : Int)), some (.inl (if bo then 1 else 0)), some (.inl (kd : Int)), some (.inl (ln : Int)), some (.inl ((h + 1 : Nat) : Int))] [] σ') hr (fun σ' w _ _ q => ?_) (fun σ' q => ?_)) (fun σ' l' h1 h2 h3 h4 => ?_)
    · obtain ⟨q1, q2⟩ := q
      refine ⟨?_, q2⟩
      rw [eE, q1]
      simp (disch := omega) only [eX7_goFolds_0, eX7_goFolds_1, eX7_goFolds_2, eX7_goFolds_5, eX7_goFolds_6, eX7_goFolds_7, eX7_goFolds_8, eX7_goFolds_11, eX7_goFolds_12, eX7_goFolds_13, eX7_goFolds_17, eX7_goFolds_18, eX7_goFolds_21, eX7_goFolds_23, eX7_goFolds_24, eX7_goFolds_27, eX7_goFolds_28, eX7_goFolds_31, eX7_goFolds_32, eX7_goFolds_36, eX7_goFolds_38, eX7_goFolds_39, eX7_goFolds_42, eX7_goFolds_43, eX7_goFolds_46, eX7_goFolds_47, eX7_goFolds_50, eX7_goFolds_51, eX7_goFolds_55, eX7_goFolds_56, eX7_goFolds_59, eX7_goFolds_60, eX7_goFolds_63, eX7_goFolds_64, eX7_goFolds_66, eX7_goFolds_67, eX7_goFolds_68, eX7_goFolds_71, eX7_goFolds_72, eX7_goFolds_74, eX7_goFolds_75, eX7_goFolds_76, eX7_goFolds_79, eX7_goFolds_80, eX7_goFolds_82, eX7_goFolds_83, eX7_goFolds_84, eX7_goFolds_85, eX7_goFolds_86, eX7_goFolds_87, eX7_goFolds_88, eX7_goFolds_89, eX7_goFolds_92, eX7_goFolds_95, eX7_goFolds_96, eX7_goFolds_97, eX7_goFolds_100, eX7_goFolds_103, eX7_goFolds_106, eX7_goFolds_109, eX7_goFolds_112, eX7_goFolds_115, eX7_goFolds_116, fx_bd_some, Option.toList_some, Option.toList_none, List.nil_append, List.cons_append, fx_uo, fx_ui, Int.toNat_natCast, ↓reduceIte, Int.reduceEq, Int.reduceLT, Int.reduceLE, Int.reduceNeg]
    · show _ = _
      unfold K0 at q
      rw [eE, q]
      simp (disch := omega) only [eX7_goFolds_0, eX7_goFolds_1, eX7_goFolds_2, eX7_goFolds_5, eX7_goFolds_6, eX7_goFolds_7, eX7_goFolds_8, eX7_goFolds_11, eX7_goFolds_12, eX7_goFolds_13, eX7_goFolds_17, eX7_goFolds_18, eX7_goFolds_21, eX7_goFolds_23, eX7_goFolds_24, eX7_goFolds_27, eX7_goFolds_28, eX7_goFolds_31, eX7_goFolds_32, eX7_goFolds_36, eX7_goFolds_38, eX7_goFolds_39, eX7_goFolds_42, eX7_goFolds_43, eX7_goFolds_46, eX7_goFolds_47, eX7_goFolds_50, eX7_goFolds_51, eX7_goFolds_55, eX7_goFolds_56, eX7_goFolds_59, eX7_goFolds_60, eX7_goFolds_63, eX7_goFolds_64, eX7_goFolds_66, eX7_goFolds_67, eX7_goFolds_68, eX7_goFolds_71, eX7_goFolds_72, eX7_goFolds_74, eX7_goFolds_75, eX7_goFolds_76, eX7_goFolds_79, eX7_goFolds_80, eX7_goFolds_82, eX7_goFolds_83, eX7_goFolds_84, eX7_goFolds_85, eX7_goFolds_86, eX7_goFolds_87, eX7_goFolds_88, eX7_goFolds_89, eX7_goFolds_92, eX7_goFolds_95, eX7_goFolds_96, eX7_goFolds_97, eX7_goFolds_100, eX7_goFolds_103, eX7_goFolds_106, eX7_goFolds_109, eX7_goFolds_112, eX7_goFolds_115, eX7_goFolds_116, fx_bd_some, Option.toList_some, Option.toList_none, List.nil_append, List.cons_append, fx_uo, fx_ui, Int.toNat_natCast, ↓reduceIte, Int.reduceEq, Int.reduceLT, Int.reduceLE, Int.reduceNeg]
      rw [show (h : Int) + 1 = ((h + 1 : Nat) : Int) by omega]
    · rw [h4]
      exact ih (h + 1) l' σ' (by omega) (hC.1 σ σ' hP ⟨l', h1⟩) h2 (by omega) h1.2
theorem gf0_n (Rf Cf : Nat → Nat) (nc : Nat) (hC : HC0 Rf Cf nc many bo Pre Lf) {kd : Nat} (hkd : kd < 3) :
    ∀ (d ln l : Nat) (σ : fx_M) (u6 : Option fx_V), ln + d = hi kd → Pre σ → 0 < l → l ≤ 1000000 → σ 20 0 39 = (l : Int) →
    MRes 3 σ l ((allN kd ln).flatMap Lf) (fx_E (fx_S Rf Cf nc) 121 34 [some (.inr (some (20, 0))), some (.inl 0), some (.inl (many : Int)), some (.inl (if bo then 1 else 0)), some (.inl (kd : Int)), some (.inl (ln : Int)), u6] [] σ) F1 (fun σ' X => ∃ v5 v6, X = fx_E (fx_S Rf Cf nc) 121 15 [some (.inr (some (20, 0))), some (.inl 0), some (.inl (many : Int)), some (.inl (if bo then 1 else 0)), some (.inl ((kd + 1 : Nat) : Int)), v5, v6] [] σ') := by
  have hhi : hi kd ≤ 4 := by unfold hi; split <;> omega
  intro d
  induction d with
  | zero =>
    intro ln l σ u6 hd hP hl0 hl h39
    rw [allN_ge (by omega), List.flatMap_nil]
    refine MRes.nil h39 ⟨some (.inl (ln : Int)), u6, ?_⟩
    unfold hi at hd
    rw [eX7_goFolds_34]
    by_cases q : kd = 2
    · rw [if_pos q] at hd
      subst q
      simp (disch := omega) only [eX7_goFolds_0, eX7_goFolds_1, eX7_goFolds_2, eX7_goFolds_5, eX7_goFolds_6, eX7_goFolds_7, eX7_goFolds_8, eX7_goFolds_11, eX7_goFolds_12, eX7_goFolds_13, eX7_goFolds_17, eX7_goFolds_18, eX7_goFolds_21, eX7_goFolds_23, eX7_goFolds_24, eX7_goFolds_27, eX7_goFolds_28, eX7_goFolds_31, eX7_goFolds_32, eX7_goFolds_36, eX7_goFolds_38, eX7_goFolds_39, eX7_goFolds_42, eX7_goFolds_43, eX7_goFolds_46, eX7_goFolds_47, eX7_goFolds_50, eX7_goFolds_51, eX7_goFolds_55, eX7_goFolds_56, eX7_goFolds_59, eX7_goFolds_60, eX7_goFolds_63, eX7_goFolds_64, eX7_goFolds_66, eX7_goFolds_67, eX7_goFolds_68, eX7_goFolds_71, eX7_goFolds_72, eX7_goFolds_74, eX7_goFolds_75, eX7_goFolds_76, eX7_goFolds_79, eX7_goFolds_80, eX7_goFolds_82, eX7_goFolds_83, eX7_goFolds_84, eX7_goFolds_85, eX7_goFolds_86, eX7_goFolds_87, eX7_goFolds_88, eX7_goFolds_89, eX7_goFolds_92, eX7_goFolds_95, eX7_goFolds_96, eX7_goFolds_97, eX7_goFolds_100, eX7_goFolds_103, eX7_goFolds_106, eX7_goFolds_109, eX7_goFolds_112, eX7_goFolds_115, eX7_goFolds_116, fx_bd_some, Option.toList_some, Option.toList_none, List.nil_append, List.cons_append, fx_uo, fx_ui, Int.toNat_natCast, ↓reduceIte, Int.reduceEq, Int.reduceLT, Int.reduceLE, Int.reduceNeg, ic2]
      rw [if_neg (by omega)]
      rfl
    · rw [if_neg q] at hd
      have q2 : ((kd : Int) = 2) = False := eq_false (by omega)
      simp (disch := omega) only [eX7_goFolds_0, eX7_goFolds_1, eX7_goFolds_2, eX7_goFolds_5, eX7_goFolds_6, eX7_goFolds_7, eX7_goFolds_8, eX7_goFolds_11, eX7_goFolds_12, eX7_goFolds_13, eX7_goFolds_17, eX7_goFolds_18, eX7_goFolds_21, eX7_goFolds_23, eX7_goFolds_24, eX7_goFolds_27, eX7_goFolds_28, eX7_goFolds_31, eX7_goFolds_32, eX7_goFolds_36, eX7_goFolds_38, eX7_goFolds_39, eX7_goFolds_42, eX7_goFolds_43, eX7_goFolds_46, eX7_goFolds_47, eX7_goFolds_50, eX7_goFolds_51, eX7_goFolds_55, eX7_goFolds_56, eX7_goFolds_59, eX7_goFolds_60, eX7_goFolds_63, eX7_goFolds_64, eX7_goFolds_66, eX7_goFolds_67, eX7_goFolds_68, eX7_goFolds_71, eX7_goFolds_72, eX7_goFolds_74, eX7_goFolds_75, eX7_goFolds_76, eX7_goFolds_79, eX7_goFolds_80, eX7_goFolds_82, eX7_goFolds_83, eX7_goFolds_84, eX7_goFolds_85, eX7_goFolds_86, eX7_goFolds_87, eX7_goFolds_88, eX7_goFolds_89, eX7_goFolds_92, eX7_goFolds_95, eX7_goFolds_96, eX7_goFolds_97, eX7_goFolds_100, eX7_goFolds_103, eX7_goFolds_106, eX7_goFolds_109, eX7_goFolds_112, eX7_goFolds_115, eX7_goFolds_116, fx_bd_some, Option.toList_some, Option.toList_none, List.nil_append, List.cons_append, fx_uo, fx_ui, Int.toNat_natCast, ↓reduceIte, Int.reduceEq, Int.reduceLT, Int.reduceLE, Int.reduceNeg, q2, if_false]
      rw [if_neg (by omega), show (kd : Int) + 1 = ((kd + 1 : Nat) : Int) by omega]
  | succ d ih =>
    intro ln l σ u6 hd hP hl0 hl h39
    rw [allN_lt (by omega), List.flatMap_append]
    have e : fx_E (fx_S Rf Cf nc) 121 34 [some (.inr (some (20, 0))), some (.inl 0), some (.inl (many : Int)), some (.inl (if bo then 1 else 0)), some (.inl (kd : Int)), some (.inl (ln : Int)), u6] [] σ = fx_E (fx_S Rf Cf nc) 121 53 [some (.inr (some (20, 0))), some (.inl 0), some (.inl (many : Int)), some (.inl (if bo then 1 else 0)), some (.inl (kd : Int)), some (.inl (ln : Int)), some (.inl ((0 : Nat) : Int))] [] σ := by
      unfold hi at hd
      rw [eX7_goFolds_34]
      by_cases q : kd = 2
      · rw [if_pos q] at hd
        subst q
        simp (disch := omega) only [eX7_goFolds_0, eX7_goFolds_1, eX7_goFolds_2, eX7_goFolds_5, eX7_goFolds_6, eX7_goFolds_7, eX7_goFolds_8, eX7_goFolds_11, eX7_goFolds_12, eX7_goFolds_13, eX7_goFolds_17, eX7_goFolds_18, eX7_goFolds_21, eX7_goFolds_23, eX7_goFolds_24, eX7_goFolds_27, eX7_goFolds_28, eX7_goFolds_31, eX7_goFolds_32, eX7_goFolds_36, eX7_goFolds_38, eX7_goFolds_39, eX7_goFolds_42, eX7_goFolds_43, eX7_goFolds_46, eX7_goFolds_47, eX7_goFolds_50, eX7_goFolds_51, eX7_goFolds_55, eX7_goFolds_56, eX7_goFolds_59, eX7_goFolds_60, eX7_goFolds_63, eX7_goFolds_64, eX7_goFolds_66, eX7_goFolds_67, eX7_goFolds_68, eX7_goFolds_71, eX7_goFolds_72, eX7_goFolds_74, eX7_goFolds_75, eX7_goFolds_76, eX7_goFolds_79, eX7_goFolds_80, eX7_goFolds_82, eX7_goFolds_83, eX7_goFolds_84, eX7_goFolds_85, eX7_goFolds_86, eX7_goFolds_87, eX7_goFolds_88, eX7_goFolds_89, eX7_goFolds_92, eX7_goFolds_95, eX7_goFolds_96, eX7_goFolds_97, eX7_goFolds_100, eX7_goFolds_103, eX7_goFolds_106, eX7_goFolds_109, eX7_goFolds_112, eX7_goFolds_115, eX7_goFolds_116, fx_bd_some, Option.toList_some, Option.toList_none, List.nil_append, List.cons_append, fx_uo, fx_ui, Int.toNat_natCast, ↓reduceIte, Int.reduceEq, Int.reduceLT, Int.reduceLE, Int.reduceNeg, ic2]
        rw [if_pos (by omega)]
        rfl
      · rw [if_neg q] at hd
        have q2 : ((kd : Int) = 2) = False := eq_false (by omega)
        simp (disch := omega) only [eX7_goFolds_0, eX7_goFolds_1, eX7_goFolds_2, eX7_goFolds_5, eX7_goFolds_6, eX7_goFolds_7, eX7_goFolds_8, eX7_goFolds_11, eX7_goFolds_12, eX7_goFolds_13, eX7_goFolds_17, eX7_goFolds_18, eX7_goFolds_21, eX7_goFolds_23, eX7_goFolds_24, eX7_goFolds_27, eX7_goFolds_28, eX7_goFolds_31, eX7_goFolds_32, eX7_goFolds_36, eX7_goFolds_38, eX7_goFolds_39, eX7_goFolds_42, eX7_goFolds_43, eX7_goFolds_46, eX7_goFolds_47, eX7_goFolds_50, eX7_goFolds_51, eX7_goFolds_55, eX7_goFolds_56, eX7_goFolds_59, eX7_goFolds_60, eX7_goFolds_63, eX7_goFolds_64, eX7_goFolds_66, eX7_goFolds_67, eX7_goFolds_68, eX7_goFolds_71, eX7_goFolds_72, eX7_goFolds_74, eX7_goFolds_75, eX7_goFolds_76, eX7_goFolds_79, eX7_goFolds_80, eX7_goFolds_82, eX7_goFolds_83, eX7_goFolds_84, eX7_goFolds_85, eX7_goFolds_86, eX7_goFolds_87, eX7_goFolds_88, eX7_goFolds_89, eX7_goFolds_92, eX7_goFolds_95, eX7_goFolds_96, eX7_goFolds_97, eX7_goFolds_100, eX7_goFolds_103, eX7_goFolds_106, eX7_goFolds_109, eX7_goFolds_112, eX7_goFolds_115, eX7_goFolds_116, fx_bd_some, Option.toList_some, Option.toList_none, List.nil_append, List.cons_append, fx_uo, fx_ui, Int.toNat_natCast, ↓reduceIte, Int.reduceEq, Int.reduceLT, Int.reduceLE, Int.reduceNeg, q2, if_false]
        rw [if_pos (by omega)]
        rfl
    rw [e]
    refine MRes.bind hl0 (gf0_h Rf Cf nc hC hkd (show ln < 4 by omega) 2 0 l σ (by omega) hP hl0 hl h39) (fun σ' l' h1 h2 h3 h4 => ?_)
    obtain ⟨v6, h4⟩ := h4
    rw [h4]
    exact ih (ln + 1) l' σ' v6 (by omega) (hC.1 σ σ' hP ⟨l', h1⟩) h2 (by omega) h1.2
theorem gf0_k (Rf Cf : Nat → Nat) (nc : Nat) (hC : HC0 Rf Cf nc many bo Pre Lf) :
    ∀ (d kd l : Nat) (σ : fx_M) (u5 u6 : Option fx_V), kd + d = 3 → Pre σ → 0 < l → l ≤ 1000000 → σ 20 0 39 = (l : Int) →
    MRes 3 σ l ((allF kd).flatMap Lf) (fx_E (fx_S Rf Cf nc) 121 15 [some (.inr (some (20, 0))), some (.inl 0), some (.inl (many : Int)), some (.inl (if bo then 1 else 0)), some (.inl (kd : Int)), u5, u6] [] σ) F1 K0 := by
  intro d
  induction d with
  | zero =>
    intro kd l σ u5 u6 hd hP hl0 hl h39
    rw [allF_ge (by omega), List.flatMap_nil]
    refine MRes.nil h39 ?_
    unfold K0
    rw [eX7_goFolds_15]
    simp (disch := omega) only [eX7_goFolds_0, eX7_goFolds_1, eX7_goFolds_2, eX7_goFolds_5, eX7_goFolds_6, eX7_goFolds_7, eX7_goFolds_8, eX7_goFolds_11, eX7_goFolds_12, eX7_goFolds_13, eX7_goFolds_17, eX7_goFolds_18, eX7_goFolds_21, eX7_goFolds_23, eX7_goFolds_24, eX7_goFolds_27, eX7_goFolds_28, eX7_goFolds_31, eX7_goFolds_32, eX7_goFolds_36, eX7_goFolds_38, eX7_goFolds_39, eX7_goFolds_42, eX7_goFolds_43, eX7_goFolds_46, eX7_goFolds_47, eX7_goFolds_50, eX7_goFolds_51, eX7_goFolds_55, eX7_goFolds_56, eX7_goFolds_59, eX7_goFolds_60, eX7_goFolds_63, eX7_goFolds_64, eX7_goFolds_66, eX7_goFolds_67, eX7_goFolds_68, eX7_goFolds_71, eX7_goFolds_72, eX7_goFolds_74, eX7_goFolds_75, eX7_goFolds_76, eX7_goFolds_79, eX7_goFolds_80, eX7_goFolds_82, eX7_goFolds_83, eX7_goFolds_84, eX7_goFolds_85, eX7_goFolds_86, eX7_goFolds_87, eX7_goFolds_88, eX7_goFolds_89, eX7_goFolds_92, eX7_goFolds_95, eX7_goFolds_96, eX7_goFolds_97, eX7_goFolds_100, eX7_goFolds_103, eX7_goFolds_106, eX7_goFolds_109, eX7_goFolds_112, eX7_goFolds_115, eX7_goFolds_116, fx_bd_some, Option.toList_some, Option.toList_none, List.nil_append, List.cons_append, fx_uo, fx_ui, Int.toNat_natCast, ↓reduceIte, Int.reduceEq, Int.reduceLT, Int.reduceLE, Int.reduceNeg]
    rw [if_neg (by omega)]
  | succ d ih =>
    intro kd l σ u5 u6 hd hP hl0 hl h39
    rw [allF_lt (by omega), List.flatMap_append]
    have e : fx_E (fx_S Rf Cf nc) 121 15 [some (.inr (some (20, 0))), some (.inl 0), some (.inl (many : Int)), some (.inl (if bo then 1 else 0)), some (.inl (kd : Int)), u5, u6] [] σ = fx_E (fx_S Rf Cf nc) 121 34 [some (.inr (some (20, 0))), some (.inl 0), some (.inl (many : Int)), some (.inl (if bo then 1 else 0)), some (.inl (kd : Int)), some (.inl (lo kd : Int)), u6] [] σ := by
      unfold lo
      rw [eX7_goFolds_15]
      by_cases q : kd = 2
      · subst q
        simp (disch := omega) only [eX7_goFolds_0, eX7_goFolds_1, eX7_goFolds_2, eX7_goFolds_5, eX7_goFolds_6, eX7_goFolds_7, eX7_goFolds_8, eX7_goFolds_11, eX7_goFolds_12, eX7_goFolds_13, eX7_goFolds_17, eX7_goFolds_18, eX7_goFolds_21, eX7_goFolds_23, eX7_goFolds_24, eX7_goFolds_27, eX7_goFolds_28, eX7_goFolds_31, eX7_goFolds_32, eX7_goFolds_36, eX7_goFolds_38, eX7_goFolds_39, eX7_goFolds_42, eX7_goFolds_43, eX7_goFolds_46, eX7_goFolds_47, eX7_goFolds_50, eX7_goFolds_51, eX7_goFolds_55, eX7_goFolds_56, eX7_goFolds_59, eX7_goFolds_60, eX7_goFolds_63, eX7_goFolds_64, eX7_goFolds_66, eX7_goFolds_67, eX7_goFolds_68, eX7_goFolds_71, eX7_goFolds_72, eX7_goFolds_74, eX7_goFolds_75, eX7_goFolds_76, eX7_goFolds_79, eX7_goFolds_80, eX7_goFolds_82, eX7_goFolds_83, eX7_goFolds_84, eX7_goFolds_85, eX7_goFolds_86, eX7_goFolds_87, eX7_goFolds_88, eX7_goFolds_89, eX7_goFolds_92, eX7_goFolds_95, eX7_goFolds_96, eX7_goFolds_97, eX7_goFolds_100, eX7_goFolds_103, eX7_goFolds_106, eX7_goFolds_109, eX7_goFolds_112, eX7_goFolds_115, eX7_goFolds_116, fx_bd_some, Option.toList_some, Option.toList_none, List.nil_append, List.cons_append, fx_uo, fx_ui, Int.toNat_natCast, ↓reduceIte, Int.reduceEq, Int.reduceLT, Int.reduceLE, Int.reduceNeg, ic2]
        rfl
      · have q2 : ((kd : Int) = 2) = False := eq_false (by omega)
        have q3 : ((kd : Int) < 3) = True := eq_true (by omega)
        rw [if_neg q]
        simp (disch := omega) only [eX7_goFolds_0, eX7_goFolds_1, eX7_goFolds_2, eX7_goFolds_5, eX7_goFolds_6, eX7_goFolds_7, eX7_goFolds_8, eX7_goFolds_11, eX7_goFolds_12, eX7_goFolds_13, eX7_goFolds_17, eX7_goFolds_18, eX7_goFolds_21, eX7_goFolds_23, eX7_goFolds_24, eX7_goFolds_27, eX7_goFolds_28, eX7_goFolds_31, eX7_goFolds_32, eX7_goFolds_36, eX7_goFolds_38, eX7_goFolds_39, eX7_goFolds_42, eX7_goFolds_43, eX7_goFolds_46, eX7_goFolds_47, eX7_goFolds_50, eX7_goFolds_51, eX7_goFolds_55, eX7_goFolds_56, eX7_goFolds_59, eX7_goFolds_60, eX7_goFolds_63, eX7_goFolds_64, eX7_goFolds_66, eX7_goFolds_67, eX7_goFolds_68, eX7_goFolds_71, eX7_goFolds_72, eX7_goFolds_74, eX7_goFolds_75, eX7_goFolds_76, eX7_goFolds_79, eX7_goFolds_80, eX7_goFolds_82, eX7_goFolds_83, eX7_goFolds_84, eX7_goFolds_85, eX7_goFolds_86, eX7_goFolds_87, eX7_goFolds_88, eX7_goFolds_89, eX7_goFolds_92, eX7_goFolds_95, eX7_goFolds_96, eX7_goFolds_97, eX7_goFolds_100, eX7_goFolds_103, eX7_goFolds_106, eX7_goFolds_109, eX7_goFolds_112, eX7_goFolds_115, eX7_goFolds_116, fx_bd_some, Option.toList_some, Option.toList_none, List.nil_append, List.cons_append, fx_uo, fx_ui, Int.toNat_natCast, ↓reduceIte, Int.reduceEq, Int.reduceLT, Int.reduceLE, Int.reduceNeg, q2, q3, if_false, if_true]
        rfl
    rw [e]
    refine MRes.bind hl0 (gf0_n Rf Cf nc hC (show kd < 3 by omega) (hi kd - lo kd) (lo kd) l σ u6 (by unfold hi lo; split <;> omega) hP hl0 hl h39) (fun σ' l' h1 h2 h3 h4 => ?_)
    obtain ⟨v5, v6, h4⟩ := h4
    rw [h4]
    exact ih (kd + 1) l' σ' v5 v6 (by omega) (hC.1 σ σ' hP ⟨l', h1⟩) h2 (by omega) h1.2
theorem gf0 (Rf Cf : Nat → Nat) (nc : Nat) (hC : HC0 Rf Cf nc many bo Pre Lf) (hm : many ≠ 0) (hm2 : many ≤ 2) {l : Nat} {σ : fx_M} (hP : Pre σ) (hl0 : 0 < l) (hl : l ≤ 1000000) (h39 : σ 20 0 39 = (l : Int)) :
    MRes 3 σ l ((allF 0).flatMap Lf) (fx_Ca (fx_S Rf Cf nc) 121 [.inr (some (20, 0)), .inl 0, .inl (many : Int), .inl (if bo then 1 else 0)] σ) F1 K0 := by
  have e : fx_Ca (fx_S Rf Cf nc) 121 [.inr (some (20, 0)), .inl 0, .inl (many : Int), .inl (if bo then 1 else 0)] σ = fx_E (fx_S Rf Cf nc) 121 15 [some (.inr (some (20, 0))), some (.inl 0), some (.inl (many : Int)), some (.inl (if bo then 1 else 0)), some (.inl ((0 : Nat) : Int)), none, none] [] σ := by
    rw [entX7_goFolds]
    simp (disch := omega) only [eX7_goFolds_0, eX7_goFolds_1, eX7_goFolds_2, eX7_goFolds_5, eX7_goFolds_6, eX7_goFolds_7, eX7_goFolds_8, eX7_goFolds_11, eX7_goFolds_12, eX7_goFolds_13, eX7_goFolds_17, eX7_goFolds_18, eX7_goFolds_21, eX7_goFolds_23, eX7_goFolds_24, eX7_goFolds_27, eX7_goFolds_28, eX7_goFolds_31, eX7_goFolds_32, eX7_goFolds_36, eX7_goFolds_38, eX7_goFolds_39, eX7_goFolds_42, eX7_goFolds_43, eX7_goFolds_46, eX7_goFolds_47, eX7_goFolds_50, eX7_goFolds_51, eX7_goFolds_55, eX7_goFolds_56, eX7_goFolds_59, eX7_goFolds_60, eX7_goFolds_63, eX7_goFolds_64, eX7_goFolds_66, eX7_goFolds_67, eX7_goFolds_68, eX7_goFolds_71, eX7_goFolds_72, eX7_goFolds_74, eX7_goFolds_75, eX7_goFolds_76, eX7_goFolds_79, eX7_goFolds_80, eX7_goFolds_82, eX7_goFolds_83, eX7_goFolds_84, eX7_goFolds_85, eX7_goFolds_86, eX7_goFolds_87, eX7_goFolds_88, eX7_goFolds_89, eX7_goFolds_92, eX7_goFolds_95, eX7_goFolds_96, eX7_goFolds_97, eX7_goFolds_100, eX7_goFolds_103, eX7_goFolds_106, eX7_goFolds_109, eX7_goFolds_112, eX7_goFolds_115, eX7_goFolds_116]
    rw [if_neg (by omega)]
    rfl
  rw [e]
  exact gf0_k Rf Cf nc hC 3 0 l σ none none (by omega) hP hl0 hl h39
theorem gf0_same (Rf Cf : Nat → Nat) (nc : Nat) {σ : fx_M} {z l : Nat} {A : List (Nat × Wy)} (h : MRes z σ l A (fx_Ca (fx_S Rf Cf nc) 120 [.inr (some (20, 0)), .inl 0, .inl (if bo then 1 else 0)] σ) F1 K0) : MRes z σ l A (fx_Ca (fx_S Rf Cf nc) 121 [.inr (some (20, 0)), .inl 0, .inl 0, .inl (if bo then 1 else 0)] σ) F1 K0 := by
  refine h.mp (fun σ' w _ _ q => ⟨?_, q.2⟩) (fun σ' q => ?_)
  · have e := q.1
    rw [entX7_goFolds]
    simp (disch := omega) only [eX7_goFolds_0, eX7_goFolds_1, eX7_goFolds_2, eX7_goFolds_5, eX7_goFolds_6, eX7_goFolds_7, eX7_goFolds_8, eX7_goFolds_11, eX7_goFolds_12, eX7_goFolds_13, eX7_goFolds_17, eX7_goFolds_18, eX7_goFolds_21, eX7_goFolds_23, eX7_goFolds_24, eX7_goFolds_27, eX7_goFolds_28, eX7_goFolds_31, eX7_goFolds_32, eX7_goFolds_36, eX7_goFolds_38, eX7_goFolds_39, eX7_goFolds_42, eX7_goFolds_43, eX7_goFolds_46, eX7_goFolds_47, eX7_goFolds_50, eX7_goFolds_51, eX7_goFolds_55, eX7_goFolds_56, eX7_goFolds_59, eX7_goFolds_60, eX7_goFolds_63, eX7_goFolds_64, eX7_goFolds_66, eX7_goFolds_67, eX7_goFolds_68, eX7_goFolds_71, eX7_goFolds_72, eX7_goFolds_74, eX7_goFolds_75, eX7_goFolds_76, eX7_goFolds_79, eX7_goFolds_80, eX7_goFolds_82, eX7_goFolds_83, eX7_goFolds_84, eX7_goFolds_85, eX7_goFolds_86, eX7_goFolds_87, eX7_goFolds_88, eX7_goFolds_89, eX7_goFolds_92, eX7_goFolds_95, eX7_goFolds_96, eX7_goFolds_97, eX7_goFolds_100, eX7_goFolds_103, eX7_goFolds_106, eX7_goFolds_109, eX7_goFolds_112, eX7_goFolds_115, eX7_goFolds_116, fx_bd_some, Option.toList_some, Option.toList_none, List.nil_append, List.cons_append, fx_uo, fx_ui, Int.toNat_natCast, ↓reduceIte, Int.reduceEq, Int.reduceLT, Int.reduceLE, Int.reduceNeg, e]
  · unfold K0 at *
    rw [entX7_goFolds]
    simp (disch := omega) only [eX7_goFolds_0, eX7_goFolds_1, eX7_goFolds_2, eX7_goFolds_5, eX7_goFolds_6, eX7_goFolds_7, eX7_goFolds_8, eX7_goFolds_11, eX7_goFolds_12, eX7_goFolds_13, eX7_goFolds_17, eX7_goFolds_18, eX7_goFolds_21, eX7_goFolds_23, eX7_goFolds_24, eX7_goFolds_27, eX7_goFolds_28, eX7_goFolds_31, eX7_goFolds_32, eX7_goFolds_36, eX7_goFolds_38, eX7_goFolds_39, eX7_goFolds_42, eX7_goFolds_43, eX7_goFolds_46, eX7_goFolds_47, eX7_goFolds_50, eX7_goFolds_51, eX7_goFolds_55, eX7_goFolds_56, eX7_goFolds_59, eX7_goFolds_60, eX7_goFolds_63, eX7_goFolds_64, eX7_goFolds_66, eX7_goFolds_67, eX7_goFolds_68, eX7_goFolds_71, eX7_goFolds_72, eX7_goFolds_74, eX7_goFolds_75, eX7_goFolds_76, eX7_goFolds_79, eX7_goFolds_80, eX7_goFolds_82, eX7_goFolds_83, eX7_goFolds_84, eX7_goFolds_85, eX7_goFolds_86, eX7_goFolds_87, eX7_goFolds_88, eX7_goFolds_89, eX7_goFolds_92, eX7_goFolds_95, eX7_goFolds_96, eX7_goFolds_97, eX7_goFolds_100, eX7_goFolds_103, eX7_goFolds_106, eX7_goFolds_109, eX7_goFolds_112, eX7_goFolds_115, eX7_goFolds_116, fx_bd_some, Option.toList_some, Option.toList_none, List.nil_append, List.cons_append, fx_uo, fx_ui, Int.toNat_natCast, ↓reduceIte, Int.reduceEq, Int.reduceLT, Int.reduceLE, Int.reduceNeg, q]
end GF0
section GF1
variable {many : Nat} {bo : Bool} {Pre : fx_M → Prop} {Lf : Nat × Nat × Nat → List (Nat × Wy)}
def HC1 (Rf Cf : Nat → Nat) (nc many : Nat) (bo : Bool) (Pre : fx_M → Prop) (Lf : Nat × Nat × Nat → List (Nat × Wy)) : Prop := (∀ σ σ', Pre σ → (∃ l, MT 2 σ σ' l) → Pre σ') ∧ ∀ (f : Nat × Nat × Nat) (σ : fx_M) (l : Nat), f.1 < 3 → f.2.1 < 4 → f.2.2 < 2 → Pre σ → σ 59 0 1 = (f.1 : Int) → σ 60 0 1 = (f.2.1 : Int) → σ 61 0 1 = (f.2.2 : Int) → 0 < l → l ≤ 1000000 → σ 20 0 39 = (l : Int) → MRes 2 σ l (Lf f) (fx_Ca (fx_S Rf Cf nc) 123 [.inr (some (20, 0)), .inl 2, .inl (many : Int), .inl (if bo then 1 else 0)] σ) F1 K0
theorem gf1_h (Rf Cf : Nat → Nat) (nc : Nat) (hC : HC1 Rf Cf nc many bo Pre Lf) {kd ln : Nat} (hkd : kd < 3) (hln : ln < 4) :
    ∀ (d h l : Nat) (σ : fx_M), h + d = 2 → Pre σ → 0 < l → l ≤ 1000000 → σ 20 0 39 = (l : Int) →
    MRes 2 σ l ((allH kd ln h).flatMap Lf) (fx_E (fx_S Rf Cf nc) 122 53 [some (.inr (some (20, 0))), some (.inl 1), some (.inl (many : Int)), some (.inl (if bo then 1 else 0)), some (.inl (kd : Int)), some (.inl (ln : Int)), some (.inl (h : Int))] [] σ) F1 (fun σ' X => ∃ v6, X = fx_E (fx_S Rf Cf nc) 122 34 [some (.inr (some (20, 0))), some (.inl 1), some (.inl (many : Int)), some (.inl (if bo then 1 else 0)), some (.inl (kd : Int)), some (.inl ((ln + 1 : Nat) : Int)), v6] [] σ') := by
  intro d
  induction d with
  | zero =>
    intro h l σ hd hP hl0 hl h39
    obtain rfl : h = 2 := by omega
    rw [allH_ge (by omega), List.flatMap_nil]
    refine MRes.nil h39 ⟨some (.inl 2), ?_⟩
    rw [eX7_goFolds_h1_53]
    simp (disch := omega) only [eX7_goFolds_h1_0, eX7_goFolds_h1_1, eX7_goFolds_h1_2, eX7_goFolds_h1_5, eX7_goFolds_h1_6, eX7_goFolds_h1_7, eX7_goFolds_h1_8, eX7_goFolds_h1_11, eX7_goFolds_h1_12, eX7_goFolds_h1_13, eX7_goFolds_h1_17, eX7_goFolds_h1_18, eX7_goFolds_h1_21, eX7_goFolds_h1_23, eX7_goFolds_h1_24, eX7_goFolds_h1_27, eX7_goFolds_h1_28, eX7_goFolds_h1_31, eX7_goFolds_h1_32, eX7_goFolds_h1_36, eX7_goFolds_h1_38, eX7_goFolds_h1_39, eX7_goFolds_h1_42, eX7_goFolds_h1_43, eX7_goFolds_h1_46, eX7_goFolds_h1_47, eX7_goFolds_h1_50, eX7_goFolds_h1_51, eX7_goFolds_h1_55, eX7_goFolds_h1_56, eX7_goFolds_h1_59, eX7_goFolds_h1_60, eX7_goFolds_h1_63, eX7_goFolds_h1_64, eX7_goFolds_h1_66, eX7_goFolds_h1_67, eX7_goFolds_h1_68, eX7_goFolds_h1_71, eX7_goFolds_h1_72, eX7_goFolds_h1_74, eX7_goFolds_h1_75, eX7_goFolds_h1_76, eX7_goFolds_h1_79, eX7_goFolds_h1_80, eX7_goFolds_h1_82, eX7_goFolds_h1_83, eX7_goFolds_h1_84, eX7_goFolds_h1_85, eX7_goFolds_h1_86, eX7_goFolds_h1_87, eX7_goFolds_h1_88, eX7_goFolds_h1_89, eX7_goFolds_h1_92, eX7_goFolds_h1_95, eX7_goFolds_h1_96, eX7_goFolds_h1_97, eX7_goFolds_h1_100, eX7_goFolds_h1_103, eX7_goFolds_h1_106, eX7_goFolds_h1_109, eX7_goFolds_h1_112, eX7_goFolds_h1_115, eX7_goFolds_h1_116, fx_bd_some, Option.toList_some, Option.toList_none, List.nil_append, List.cons_append, fx_uo, fx_ui, Int.toNat_natCast, ↓reduceIte, Int.reduceEq, Int.reduceLT, Int.reduceLE, Int.reduceNeg]
    rw [if_neg (by omega), show (ln : Int) + 1 = ((ln + 1 : Nat) : Int) by omega]
    rfl
  | succ d ih =>
    intro h l σ hd hP hl0 hl h39
    rw [allH_lt (by omega), List.flatMap_cons]
    obtain ⟨τ, hτ⟩ : ∃ τ, τ = fx_up (fx_up (fx_up σ 59 0 1 kd) 60 0 1 ln) 61 0 1 h := ⟨_, rfl⟩
    have fτ : ∀ o k x, ¬ (k = 0 ∧ 59 ≤ o ∧ o ≤ 61 ∧ x = 1) → τ o k x = σ o k x := fun o k x q => by
      rw [hτ]; unfold fx_up
      rw [if_neg (by omega), if_neg (by omega), if_neg (by omega)]
    have v1 : τ 59 0 1 = (kd : Int) := by rw [hτ]; simp [fx_up]
    have v2 : τ 60 0 1 = (ln : Int) := by rw [hτ]; simp [fx_up]
    have v3 : τ 61 0 1 = (h : Int) := by rw [hτ]; simp [fx_up]
    have hM0 : MT 2 σ τ l := ⟨fun o k x q => fτ o k x (by omega), by rw [fτ _ _ _ (by omega)]; exact h39⟩
    have hr := MRes.pre hM0 (hC.2 (kd, ln, h) τ l hkd hln (show h < 2 by omega) (hC.1 σ τ hP ⟨l, hM0⟩) v1 v2 v3 hl0 hl hM0.2)
    obtain ⟨X, hX⟩ : ∃ X, X = fx_Ca (fx_S Rf Cf nc) 123 [.inr (some (20, 0)), .inl 2, .inl (many : Int), .inl (if bo then 1 else 0)] τ := ⟨_, rfl⟩
    rw [← hX] at hr
    have eE : fx_E (fx_S Rf Cf nc) 122 53 [some (.inr (some (20, 0))), some (.inl 1), some (.inl (many : Int)), some (.inl (if bo then 1 else 0)), some (.inl (kd : Int)), some (.inl (ln : Int)), some (.inl (h : Int))] [] σ = fx_bd X (fun v σ' => fx_E (fx_S Rf Cf nc) 122 92 [some (.inr (some (20, 0))), some (.inl 1), some (.inl (many : Int)), some (.inl (if bo then 1 else 0)), some (.inl (kd : Int)), some (.inl (ln : Int)), some (.inl (h : Int))] (v.toList ++ []) σ') := by
      rw [hX, hτ, eX7_goFolds_h1_53]
      simp (disch := omega) only [eX7_goFolds_h1_0, eX7_goFolds_h1_1, eX7_goFolds_h1_2, eX7_goFolds_h1_5, eX7_goFolds_h1_6, eX7_goFolds_h1_7, eX7_goFolds_h1_8, eX7_goFolds_h1_11, eX7_goFolds_h1_12, eX7_goFolds_h1_13, eX7_goFolds_h1_17, eX7_goFolds_h1_18, eX7_goFolds_h1_21, eX7_goFolds_h1_23, eX7_goFolds_h1_24, eX7_goFolds_h1_27, eX7_goFolds_h1_28, eX7_goFolds_h1_31, eX7_goFolds_h1_32, eX7_goFolds_h1_36, eX7_goFolds_h1_38, eX7_goFolds_h1_39, eX7_goFolds_h1_42, eX7_goFolds_h1_43, eX7_goFolds_h1_46, eX7_goFolds_h1_47, eX7_goFolds_h1_50, eX7_goFolds_h1_51, eX7_goFolds_h1_55, eX7_goFolds_h1_56, eX7_goFolds_h1_59, eX7_goFolds_h1_60, eX7_goFolds_h1_63, eX7_goFolds_h1_64, eX7_goFolds_h1_66, eX7_goFolds_h1_67, eX7_goFolds_h1_68, eX7_goFolds_h1_71, eX7_goFolds_h1_72, eX7_goFolds_h1_74, eX7_goFolds_h1_75, eX7_goFolds_h1_76, eX7_goFolds_h1_79, eX7_goFolds_h1_80, eX7_goFolds_h1_82, eX7_goFolds_h1_83, eX7_goFolds_h1_84, eX7_goFolds_h1_85, eX7_goFolds_h1_86, eX7_goFolds_h1_87, eX7_goFolds_h1_88, eX7_goFolds_h1_89, eX7_goFolds_h1_95, eX7_goFolds_h1_96, eX7_goFolds_h1_97, eX7_goFolds_h1_100, eX7_goFolds_h1_103, eX7_goFolds_h1_106, eX7_goFolds_h1_109, eX7_goFolds_h1_112, eX7_goFolds_h1_115, eX7_goFolds_h1_116, ↓reduceIte, Int.reduceAdd, Int.reduceToNat, Int.reduceLT]
      rw [if_pos (by omega)]
    refine MRes.bind hl0 (MRes.mp (Y := fx_E (fx_S Rf Cf nc) 122 53 [some (.inr (some (20, 0))), some (.inl 1), some (.inl (many : Int)), some (.inl (if bo then 1 else 0)), some (.inl (kd : Int)), some (.inl (ln : Int)), some (.inl (h : Int))] [] σ) (Fq := F1) (Kq := fun σ' Y => Y = fx_E (fx_S Rf Cf nc) 122 53 [some (.inr (some (20, 0))), some (.inl 1), some (.inl (many : Int)), some (.inl (if bo then 1 else 0)), some (.inl (kd : Int)), some (.inl (ln : Int)), some (.inl ((h + 1 : Nat) : Int))] [] σ') hr (fun σ' w _ _ q => ?_) (fun σ' q => ?_)) (fun σ' l' h1 h2 h3 h4 => ?_)
    · obtain ⟨q1, q2⟩ := q
      refine ⟨?_, q2⟩
      rw [eE, q1]
      simp (disch := omega) only [eX7_goFolds_h1_0, eX7_goFolds_h1_1, eX7_goFolds_h1_2, eX7_goFolds_h1_5, eX7_goFolds_h1_6, eX7_goFolds_h1_7, eX7_goFolds_h1_8, eX7_goFolds_h1_11, eX7_goFolds_h1_12, eX7_goFolds_h1_13, eX7_goFolds_h1_17, eX7_goFolds_h1_18, eX7_goFolds_h1_21, eX7_goFolds_h1_23, eX7_goFolds_h1_24, eX7_goFolds_h1_27, eX7_goFolds_h1_28, eX7_goFolds_h1_31, eX7_goFolds_h1_32, eX7_goFolds_h1_36, eX7_goFolds_h1_38, eX7_goFolds_h1_39, eX7_goFolds_h1_42, eX7_goFolds_h1_43, eX7_goFolds_h1_46, eX7_goFolds_h1_47, eX7_goFolds_h1_50, eX7_goFolds_h1_51, eX7_goFolds_h1_55, eX7_goFolds_h1_56, eX7_goFolds_h1_59, eX7_goFolds_h1_60, eX7_goFolds_h1_63, eX7_goFolds_h1_64, eX7_goFolds_h1_66, eX7_goFolds_h1_67, eX7_goFolds_h1_68, eX7_goFolds_h1_71, eX7_goFolds_h1_72, eX7_goFolds_h1_74, eX7_goFolds_h1_75, eX7_goFolds_h1_76, eX7_goFolds_h1_79, eX7_goFolds_h1_80, eX7_goFolds_h1_82, eX7_goFolds_h1_83, eX7_goFolds_h1_84, eX7_goFolds_h1_85, eX7_goFolds_h1_86, eX7_goFolds_h1_87, eX7_goFolds_h1_88, eX7_goFolds_h1_89, eX7_goFolds_h1_92, eX7_goFolds_h1_95, eX7_goFolds_h1_96, eX7_goFolds_h1_97, eX7_goFolds_h1_100, eX7_goFolds_h1_103, eX7_goFolds_h1_106, eX7_goFolds_h1_109, eX7_goFolds_h1_112, eX7_goFolds_h1_115, eX7_goFolds_h1_116, fx_bd_some, Option.toList_some, Option.toList_none, List.nil_append, List.cons_append, fx_uo, fx_ui, Int.toNat_natCast, ↓reduceIte, Int.reduceEq, Int.reduceLT, Int.reduceLE, Int.reduceNeg]
    · show _ = _
      unfold K0 at q
      rw [eE, q]
      simp (disch := omega) only [eX7_goFolds_h1_0, eX7_goFolds_h1_1, eX7_goFolds_h1_2, eX7_goFolds_h1_5, eX7_goFolds_h1_6, eX7_goFolds_h1_7, eX7_goFolds_h1_8, eX7_goFolds_h1_11, eX7_goFolds_h1_12, eX7_goFolds_h1_13, eX7_goFolds_h1_17, eX7_goFolds_h1_18, eX7_goFolds_h1_21, eX7_goFolds_h1_23, eX7_goFolds_h1_24, eX7_goFolds_h1_27, eX7_goFolds_h1_28, eX7_goFolds_h1_31, eX7_goFolds_h1_32, eX7_goFolds_h1_36, eX7_goFolds_h1_38, eX7_goFolds_h1_39, eX7_goFolds_h1_42, eX7_goFolds_h1_43, eX7_goFolds_h1_46, eX7_goFolds_h1_47, eX7_goFolds_h1_50, eX7_goFolds_h1_51, eX7_goFolds_h1_55, eX7_goFolds_h1_56, eX7_goFolds_h1_59, eX7_goFolds_h1_60, eX7_goFolds_h1_63, eX7_goFolds_h1_64, eX7_goFolds_h1_66, eX7_goFolds_h1_67, eX7_goFolds_h1_68, eX7_goFolds_h1_71, eX7_goFolds_h1_72, eX7_goFolds_h1_74, eX7_goFolds_h1_75, eX7_goFolds_h1_76, eX7_goFolds_h1_79, eX7_goFolds_h1_80, eX7_goFolds_h1_82, eX7_goFolds_h1_83, eX7_goFolds_h1_84, eX7_goFolds_h1_85, eX7_goFolds_h1_86, eX7_goFolds_h1_87, eX7_goFolds_h1_88, eX7_goFolds_h1_89, eX7_goFolds_h1_92, eX7_goFolds_h1_95, eX7_goFolds_h1_96, eX7_goFolds_h1_97, eX7_goFolds_h1_100, eX7_goFolds_h1_103, eX7_goFolds_h1_106, eX7_goFolds_h1_109, eX7_goFolds_h1_112, eX7_goFolds_h1_115, eX7_goFolds_h1_116, fx_bd_some, Option.toList_some, Option.toList_none, List.nil_append, List.cons_append, fx_uo, fx_ui, Int.toNat_natCast, ↓reduceIte, Int.reduceEq, Int.reduceLT, Int.reduceLE, Int.reduceNeg]
      rw [show (h : Int) + 1 = ((h + 1 : Nat) : Int) by omega]
    · rw [h4]
      exact ih (h + 1) l' σ' (by omega) (hC.1 σ σ' hP ⟨l', h1⟩) h2 (by omega) h1.2
theorem gf1_n (Rf Cf : Nat → Nat) (nc : Nat) (hC : HC1 Rf Cf nc many bo Pre Lf) {kd : Nat} (hkd : kd < 3) :
    ∀ (d ln l : Nat) (σ : fx_M) (u6 : Option fx_V), ln + d = hi kd → Pre σ → 0 < l → l ≤ 1000000 → σ 20 0 39 = (l : Int) →
    MRes 2 σ l ((allN kd ln).flatMap Lf) (fx_E (fx_S Rf Cf nc) 122 34 [some (.inr (some (20, 0))), some (.inl 1), some (.inl (many : Int)), some (.inl (if bo then 1 else 0)), some (.inl (kd : Int)), some (.inl (ln : Int)), u6] [] σ) F1 (fun σ' X => ∃ v5 v6, X = fx_E (fx_S Rf Cf nc) 122 15 [some (.inr (some (20, 0))), some (.inl 1), some (.inl (many : Int)), some (.inl (if bo then 1 else 0)), some (.inl ((kd + 1 : Nat) : Int)), v5, v6] [] σ') := by
  have hhi : hi kd ≤ 4 := by unfold hi; split <;> omega
  intro d
  induction d with
  | zero =>
    intro ln l σ u6 hd hP hl0 hl h39
    rw [allN_ge (by omega), List.flatMap_nil]
    refine MRes.nil h39 ⟨some (.inl (ln : Int)), u6, ?_⟩
    unfold hi at hd
    rw [eX7_goFolds_h1_34]
    by_cases q : kd = 2
    · rw [if_pos q] at hd
      subst q
      simp (disch := omega) only [eX7_goFolds_h1_0, eX7_goFolds_h1_1, eX7_goFolds_h1_2, eX7_goFolds_h1_5, eX7_goFolds_h1_6, eX7_goFolds_h1_7, eX7_goFolds_h1_8, eX7_goFolds_h1_11, eX7_goFolds_h1_12, eX7_goFolds_h1_13, eX7_goFolds_h1_17, eX7_goFolds_h1_18, eX7_goFolds_h1_21, eX7_goFolds_h1_23, eX7_goFolds_h1_24, eX7_goFolds_h1_27, eX7_goFolds_h1_28, eX7_goFolds_h1_31, eX7_goFolds_h1_32, eX7_goFolds_h1_36, eX7_goFolds_h1_38, eX7_goFolds_h1_39, eX7_goFolds_h1_42, eX7_goFolds_h1_43, eX7_goFolds_h1_46, eX7_goFolds_h1_47, eX7_goFolds_h1_50, eX7_goFolds_h1_51, eX7_goFolds_h1_55, eX7_goFolds_h1_56, eX7_goFolds_h1_59, eX7_goFolds_h1_60, eX7_goFolds_h1_63, eX7_goFolds_h1_64, eX7_goFolds_h1_66, eX7_goFolds_h1_67, eX7_goFolds_h1_68, eX7_goFolds_h1_71, eX7_goFolds_h1_72, eX7_goFolds_h1_74, eX7_goFolds_h1_75, eX7_goFolds_h1_76, eX7_goFolds_h1_79, eX7_goFolds_h1_80, eX7_goFolds_h1_82, eX7_goFolds_h1_83, eX7_goFolds_h1_84, eX7_goFolds_h1_85, eX7_goFolds_h1_86, eX7_goFolds_h1_87, eX7_goFolds_h1_88, eX7_goFolds_h1_89, eX7_goFolds_h1_92, eX7_goFolds_h1_95, eX7_goFolds_h1_96, eX7_goFolds_h1_97, eX7_goFolds_h1_100, eX7_goFolds_h1_103, eX7_goFolds_h1_106, eX7_goFolds_h1_109, eX7_goFolds_h1_112, eX7_goFolds_h1_115, eX7_goFolds_h1_116, fx_bd_some, Option.toList_some, Option.toList_none, List.nil_append, List.cons_append, fx_uo, fx_ui, Int.toNat_natCast, ↓reduceIte, Int.reduceEq, Int.reduceLT, Int.reduceLE, Int.reduceNeg, ic2]
      rw [if_neg (by omega)]
      rfl
    · rw [if_neg q] at hd
      have q2 : ((kd : Int) = 2) = False := eq_false (by omega)
      simp (disch := omega) only [eX7_goFolds_h1_0, eX7_goFolds_h1_1, eX7_goFolds_h1_2, eX7_goFolds_h1_5, eX7_goFolds_h1_6, eX7_goFolds_h1_7, eX7_goFolds_h1_8, eX7_goFolds_h1_11, eX7_goFolds_h1_12, eX7_goFolds_h1_13, eX7_goFolds_h1_17, eX7_goFolds_h1_18, eX7_goFolds_h1_21, eX7_goFolds_h1_23, eX7_goFolds_h1_24, eX7_goFolds_h1_27, eX7_goFolds_h1_28, eX7_goFolds_h1_31, eX7_goFolds_h1_32, eX7_goFolds_h1_36, eX7_goFolds_h1_38, eX7_goFolds_h1_39, eX7_goFolds_h1_42, eX7_goFolds_h1_43, eX7_goFolds_h1_46, eX7_goFolds_h1_47, eX7_goFolds_h1_50, eX7_goFolds_h1_51, eX7_goFolds_h1_55, eX7_goFolds_h1_56, eX7_goFolds_h1_59, eX7_goFolds_h1_60, eX7_goFolds_h1_63, eX7_goFolds_h1_64, eX7_goFolds_h1_66, eX7_goFolds_h1_67, eX7_goFolds_h1_68, eX7_goFolds_h1_71, eX7_goFolds_h1_72, eX7_goFolds_h1_74, eX7_goFolds_h1_75, eX7_goFolds_h1_76, eX7_goFolds_h1_79, eX7_goFolds_h1_80, eX7_goFolds_h1_82, eX7_goFolds_h1_83, eX7_goFolds_h1_84, eX7_goFolds_h1_85, eX7_goFolds_h1_86, eX7_goFolds_h1_87, eX7_goFolds_h1_88, eX7_goFolds_h1_89, eX7_goFolds_h1_92, eX7_goFolds_h1_95, eX7_goFolds_h1_96, eX7_goFolds_h1_97, eX7_goFolds_h1_100, eX7_goFolds_h1_103, eX7_goFolds_h1_106, eX7_goFolds_h1_109, eX7_goFolds_h1_112, eX7_goFolds_h1_115, eX7_goFolds_h1_116, fx_bd_some, Option.toList_some, Option.toList_none, List.nil_append, List.cons_append, fx_uo, fx_ui, Int.toNat_natCast, ↓reduceIte, Int.reduceEq, Int.reduceLT, Int.reduceLE, Int.reduceNeg, q2, if_false]
      rw [if_neg (by omega), show (kd : Int) + 1 = ((kd + 1 : Nat) : Int) by omega]
  | succ d ih =>
    intro ln l σ u6 hd hP hl0 hl h39
    rw [allN_lt (by omega), List.flatMap_append]
    have e : fx_E (fx_S Rf Cf nc) 122 34 [some (.inr (some (20, 0))), some (.inl 1), some (.inl (many : Int)), some (.inl (if bo then 1 else 0)), some (.inl (kd : Int)), some (.inl (ln : Int)), u6] [] σ = fx_E (fx_S Rf Cf nc) 122 53 [some (.inr (some (20, 0))), some (.inl 1), some (.inl (many : Int)), some (.inl (if bo then 1 else 0)), some (.inl (kd : Int)), some (.inl (ln : Int)), some (.inl ((0 : Nat) : Int))] [] σ := by
      unfold hi at hd
      rw [eX7_goFolds_h1_34]
      by_cases q : kd = 2
      · rw [if_pos q] at hd
        subst q
        simp (disch := omega) only [eX7_goFolds_h1_0, eX7_goFolds_h1_1, eX7_goFolds_h1_2, eX7_goFolds_h1_5, eX7_goFolds_h1_6, eX7_goFolds_h1_7, eX7_goFolds_h1_8, eX7_goFolds_h1_11, eX7_goFolds_h1_12, eX7_goFolds_h1_13, eX7_goFolds_h1_17, eX7_goFolds_h1_18, eX7_goFolds_h1_21, eX7_goFolds_h1_23, eX7_goFolds_h1_24, eX7_goFolds_h1_27, eX7_goFolds_h1_28, eX7_goFolds_h1_31, eX7_goFolds_h1_32, eX7_goFolds_h1_36, eX7_goFolds_h1_38, eX7_goFolds_h1_39, eX7_goFolds_h1_42, eX7_goFolds_h1_43, eX7_goFolds_h1_46, eX7_goFolds_h1_47, eX7_goFolds_h1_50, eX7_goFolds_h1_51, eX7_goFolds_h1_55, eX7_goFolds_h1_56, eX7_goFolds_h1_59, eX7_goFolds_h1_60, eX7_goFolds_h1_63, eX7_goFolds_h1_64, eX7_goFolds_h1_66, eX7_goFolds_h1_67, eX7_goFolds_h1_68, eX7_goFolds_h1_71, eX7_goFolds_h1_72, eX7_goFolds_h1_74, eX7_goFolds_h1_75, eX7_goFolds_h1_76, eX7_goFolds_h1_79, eX7_goFolds_h1_80, eX7_goFolds_h1_82, eX7_goFolds_h1_83, eX7_goFolds_h1_84, eX7_goFolds_h1_85, eX7_goFolds_h1_86, eX7_goFolds_h1_87, eX7_goFolds_h1_88, eX7_goFolds_h1_89, eX7_goFolds_h1_92, eX7_goFolds_h1_95, eX7_goFolds_h1_96, eX7_goFolds_h1_97, eX7_goFolds_h1_100, eX7_goFolds_h1_103, eX7_goFolds_h1_106, eX7_goFolds_h1_109, eX7_goFolds_h1_112, eX7_goFolds_h1_115, eX7_goFolds_h1_116, fx_bd_some, Option.toList_some, Option.toList_none, List.nil_append, List.cons_append, fx_uo, fx_ui, Int.toNat_natCast, ↓reduceIte, Int.reduceEq, Int.reduceLT, Int.reduceLE, Int.reduceNeg, ic2]
        rw [if_pos (by omega)]
        rfl
      · rw [if_neg q] at hd
        have q2 : ((kd : Int) = 2) = False := eq_false (by omega)
        simp (disch := omega) only [eX7_goFolds_h1_0, eX7_goFolds_h1_1, eX7_goFolds_h1_2, eX7_goFolds_h1_5, eX7_goFolds_h1_6, eX7_goFolds_h1_7, eX7_goFolds_h1_8, eX7_goFolds_h1_11, eX7_goFolds_h1_12, eX7_goFolds_h1_13, eX7_goFolds_h1_17, eX7_goFolds_h1_18, eX7_goFolds_h1_21, eX7_goFolds_h1_23, eX7_goFolds_h1_24, eX7_goFolds_h1_27, eX7_goFolds_h1_28, eX7_goFolds_h1_31, eX7_goFolds_h1_32, eX7_goFolds_h1_36, eX7_goFolds_h1_38, eX7_goFolds_h1_39, eX7_goFolds_h1_42, eX7_goFolds_h1_43, eX7_goFolds_h1_46, eX7_goFolds_h1_47, eX7_goFolds_h1_50, eX7_goFolds_h1_51, eX7_goFolds_h1_55, eX7_goFolds_h1_56, eX7_goFolds_h1_59, eX7_goFolds_h1_60, eX7_goFolds_h1_63, eX7_goFolds_h1_64, eX7_goFolds_h1_66, eX7_goFolds_h1_67, eX7_goFolds_h1_68, eX7_goFolds_h1_71, eX7_goFolds_h1_72, eX7_goFolds_h1_74, eX7_goFolds_h1_75, eX7_goFolds_h1_76, eX7_goFolds_h1_79, eX7_goFolds_h1_80, eX7_goFolds_h1_82, eX7_goFolds_h1_83, eX7_goFolds_h1_84, eX7_goFolds_h1_85, eX7_goFolds_h1_86, eX7_goFolds_h1_87, eX7_goFolds_h1_88, eX7_goFolds_h1_89, eX7_goFolds_h1_92, eX7_goFolds_h1_95, eX7_goFolds_h1_96, eX7_goFolds_h1_97, eX7_goFolds_h1_100, eX7_goFolds_h1_103, eX7_goFolds_h1_106, eX7_goFolds_h1_109, eX7_goFolds_h1_112, eX7_goFolds_h1_115, eX7_goFolds_h1_116, fx_bd_some, Option.toList_some, Option.toList_none, List.nil_append, List.cons_append, fx_uo, fx_ui, Int.toNat_natCast, ↓reduceIte, Int.reduceEq, Int.reduceLT, Int.reduceLE, Int.reduceNeg, q2, if_false]
        rw [if_pos (by omega)]
        rfl
    rw [e]
    refine MRes.bind hl0 (gf1_h Rf Cf nc hC hkd (show ln < 4 by omega) 2 0 l σ (by omega) hP hl0 hl h39) (fun σ' l' h1 h2 h3 h4 => ?_)
    obtain ⟨v6, h4⟩ := h4
    rw [h4]
    exact ih (ln + 1) l' σ' v6 (by omega) (hC.1 σ σ' hP ⟨l', h1⟩) h2 (by omega) h1.2
theorem gf1_k (Rf Cf : Nat → Nat) (nc : Nat) (hC : HC1 Rf Cf nc many bo Pre Lf) :
    ∀ (d kd l : Nat) (σ : fx_M) (u5 u6 : Option fx_V), kd + d = 3 → Pre σ → 0 < l → l ≤ 1000000 → σ 20 0 39 = (l : Int) →
    MRes 2 σ l ((allF kd).flatMap Lf) (fx_E (fx_S Rf Cf nc) 122 15 [some (.inr (some (20, 0))), some (.inl 1), some (.inl (many : Int)), some (.inl (if bo then 1 else 0)), some (.inl (kd : Int)), u5, u6] [] σ) F1 K0 := by
  intro d
  induction d with
  | zero =>
    intro kd l σ u5 u6 hd hP hl0 hl h39
    rw [allF_ge (by omega), List.flatMap_nil]
    refine MRes.nil h39 ?_
    unfold K0
    rw [eX7_goFolds_h1_15]
    simp (disch := omega) only [eX7_goFolds_h1_0, eX7_goFolds_h1_1, eX7_goFolds_h1_2, eX7_goFolds_h1_5, eX7_goFolds_h1_6, eX7_goFolds_h1_7, eX7_goFolds_h1_8, eX7_goFolds_h1_11, eX7_goFolds_h1_12, eX7_goFolds_h1_13, eX7_goFolds_h1_17, eX7_goFolds_h1_18, eX7_goFolds_h1_21, eX7_goFolds_h1_23, eX7_goFolds_h1_24, eX7_goFolds_h1_27, eX7_goFolds_h1_28, eX7_goFolds_h1_31, eX7_goFolds_h1_32, eX7_goFolds_h1_36, eX7_goFolds_h1_38, eX7_goFolds_h1_39, eX7_goFolds_h1_42, eX7_goFolds_h1_43, eX7_goFolds_h1_46, eX7_goFolds_h1_47, eX7_goFolds_h1_50, eX7_goFolds_h1_51, eX7_goFolds_h1_55, eX7_goFolds_h1_56, eX7_goFolds_h1_59, eX7_goFolds_h1_60, eX7_goFolds_h1_63, eX7_goFolds_h1_64, eX7_goFolds_h1_66, eX7_goFolds_h1_67, eX7_goFolds_h1_68, eX7_goFolds_h1_71, eX7_goFolds_h1_72, eX7_goFolds_h1_74, eX7_goFolds_h1_75, eX7_goFolds_h1_76, eX7_goFolds_h1_79, eX7_goFolds_h1_80, eX7_goFolds_h1_82, eX7_goFolds_h1_83, eX7_goFolds_h1_84, eX7_goFolds_h1_85, eX7_goFolds_h1_86, eX7_goFolds_h1_87, eX7_goFolds_h1_88, eX7_goFolds_h1_89, eX7_goFolds_h1_92, eX7_goFolds_h1_95, eX7_goFolds_h1_96, eX7_goFolds_h1_97, eX7_goFolds_h1_100, eX7_goFolds_h1_103, eX7_goFolds_h1_106, eX7_goFolds_h1_109, eX7_goFolds_h1_112, eX7_goFolds_h1_115, eX7_goFolds_h1_116, fx_bd_some, Option.toList_some, Option.toList_none, List.nil_append, List.cons_append, fx_uo, fx_ui, Int.toNat_natCast, ↓reduceIte, Int.reduceEq, Int.reduceLT, Int.reduceLE, Int.reduceNeg]
    rw [if_neg (by omega)]
  | succ d ih =>
    intro kd l σ u5 u6 hd hP hl0 hl h39
    rw [allF_lt (by omega), List.flatMap_append]
    have e : fx_E (fx_S Rf Cf nc) 122 15 [some (.inr (some (20, 0))), some (.inl 1), some (.inl (many : Int)), some (.inl (if bo then 1 else 0)), some (.inl (kd : Int)), u5, u6] [] σ = fx_E (fx_S Rf Cf nc) 122 34 [some (.inr (some (20, 0))), some (.inl 1), some (.inl (many : Int)), some (.inl (if bo then 1 else 0)), some (.inl (kd : Int)), some (.inl (lo kd : Int)), u6] [] σ := by
      unfold lo
      rw [eX7_goFolds_h1_15]
      by_cases q : kd = 2
      · subst q
        simp (disch := omega) only [eX7_goFolds_h1_0, eX7_goFolds_h1_1, eX7_goFolds_h1_2, eX7_goFolds_h1_5, eX7_goFolds_h1_6, eX7_goFolds_h1_7, eX7_goFolds_h1_8, eX7_goFolds_h1_11, eX7_goFolds_h1_12, eX7_goFolds_h1_13, eX7_goFolds_h1_17, eX7_goFolds_h1_18, eX7_goFolds_h1_21, eX7_goFolds_h1_23, eX7_goFolds_h1_24, eX7_goFolds_h1_27, eX7_goFolds_h1_28, eX7_goFolds_h1_31, eX7_goFolds_h1_32, eX7_goFolds_h1_36, eX7_goFolds_h1_38, eX7_goFolds_h1_39, eX7_goFolds_h1_42, eX7_goFolds_h1_43, eX7_goFolds_h1_46, eX7_goFolds_h1_47, eX7_goFolds_h1_50, eX7_goFolds_h1_51, eX7_goFolds_h1_55, eX7_goFolds_h1_56, eX7_goFolds_h1_59, eX7_goFolds_h1_60, eX7_goFolds_h1_63, eX7_goFolds_h1_64, eX7_goFolds_h1_66, eX7_goFolds_h1_67, eX7_goFolds_h1_68, eX7_goFolds_h1_71, eX7_goFolds_h1_72, eX7_goFolds_h1_74, eX7_goFolds_h1_75, eX7_goFolds_h1_76, eX7_goFolds_h1_79, eX7_goFolds_h1_80, eX7_goFolds_h1_82, eX7_goFolds_h1_83, eX7_goFolds_h1_84, eX7_goFolds_h1_85, eX7_goFolds_h1_86, eX7_goFolds_h1_87, eX7_goFolds_h1_88, eX7_goFolds_h1_89, eX7_goFolds_h1_92, eX7_goFolds_h1_95, eX7_goFolds_h1_96, eX7_goFolds_h1_97, eX7_goFolds_h1_100, eX7_goFolds_h1_103, eX7_goFolds_h1_106, eX7_goFolds_h1_109, eX7_goFolds_h1_112, eX7_goFolds_h1_115, eX7_goFolds_h1_116, fx_bd_some, Option.toList_some, Option.toList_none, List.nil_append, List.cons_append, fx_uo, fx_ui, Int.toNat_natCast, ↓reduceIte, Int.reduceEq, Int.reduceLT, Int.reduceLE, Int.reduceNeg, ic2]
        rfl
      · have q2 : ((kd : Int) = 2) = False := eq_false (by omega)
        have q3 : ((kd : Int) < 3) = True := eq_true (by omega)
        rw [if_neg q]
        simp (disch := omega) only [eX7_goFolds_h1_0, eX7_goFolds_h1_1, eX7_goFolds_h1_2, eX7_goFolds_h1_5, eX7_goFolds_h1_6, eX7_goFolds_h1_7, eX7_goFolds_h1_8, eX7_goFolds_h1_11, eX7_goFolds_h1_12, eX7_goFolds_h1_13, eX7_goFolds_h1_17, eX7_goFolds_h1_18, eX7_goFolds_h1_21, eX7_goFolds_h1_23, eX7_goFolds_h1_24, eX7_goFolds_h1_27, eX7_goFolds_h1_28, eX7_goFolds_h1_31, eX7_goFolds_h1_32, eX7_goFolds_h1_36, eX7_goFolds_h1_38, eX7_goFolds_h1_39, eX7_goFolds_h1_42, eX7_goFolds_h1_43, eX7_goFolds_h1_46, eX7_goFolds_h1_47, eX7_goFolds_h1_50, eX7_goFolds_h1_51, eX7_goFolds_h1_55, eX7_goFolds_h1_56, eX7_goFolds_h1_59, eX7_goFolds_h1_60, eX7_goFolds_h1_63, eX7_goFolds_h1_64, eX7_goFolds_h1_66, eX7_goFolds_h1_67, eX7_goFolds_h1_68, eX7_goFolds_h1_71, eX7_goFolds_h1_72, eX7_goFolds_h1_74, eX7_goFolds_h1_75, eX7_goFolds_h1_76, eX7_goFolds_h1_79, eX7_goFolds_h1_80, eX7_goFolds_h1_82, eX7_goFolds_h1_83, eX7_goFolds_h1_84, eX7_goFolds_h1_85, eX7_goFolds_h1_86, eX7_goFolds_h1_87, eX7_goFolds_h1_88, eX7_goFolds_h1_89, eX7_goFolds_h1_92, eX7_goFolds_h1_95, eX7_goFolds_h1_96, eX7_goFolds_h1_97, eX7_goFolds_h1_100, eX7_goFolds_h1_103, eX7_goFolds_h1_106, eX7_goFolds_h1_109, eX7_goFolds_h1_112, eX7_goFolds_h1_115, eX7_goFolds_h1_116, fx_bd_some, Option.toList_some, Option.toList_none, List.nil_append, List.cons_append, fx_uo, fx_ui, Int.toNat_natCast, ↓reduceIte, Int.reduceEq, Int.reduceLT, Int.reduceLE, Int.reduceNeg, q2, q3, if_false, if_true]
        rfl
    rw [e]
    refine MRes.bind hl0 (gf1_n Rf Cf nc hC (show kd < 3 by omega) (hi kd - lo kd) (lo kd) l σ u6 (by unfold hi lo; split <;> omega) hP hl0 hl h39) (fun σ' l' h1 h2 h3 h4 => ?_)
    obtain ⟨v5, v6, h4⟩ := h4
    rw [h4]
    exact ih (kd + 1) l' σ' v5 v6 (by omega) (hC.1 σ σ' hP ⟨l', h1⟩) h2 (by omega) h1.2
theorem gf1 (Rf Cf : Nat → Nat) (nc : Nat) (hC : HC1 Rf Cf nc many bo Pre Lf) (hm : many ≠ 1) (hm2 : many ≤ 2) {l : Nat} {σ : fx_M} (hP : Pre σ) (hl0 : 0 < l) (hl : l ≤ 1000000) (h39 : σ 20 0 39 = (l : Int)) :
    MRes 2 σ l ((allF 0).flatMap Lf) (fx_Ca (fx_S Rf Cf nc) 122 [.inr (some (20, 0)), .inl 1, .inl (many : Int), .inl (if bo then 1 else 0)] σ) F1 K0 := by
  have e : fx_Ca (fx_S Rf Cf nc) 122 [.inr (some (20, 0)), .inl 1, .inl (many : Int), .inl (if bo then 1 else 0)] σ = fx_E (fx_S Rf Cf nc) 122 15 [some (.inr (some (20, 0))), some (.inl 1), some (.inl (many : Int)), some (.inl (if bo then 1 else 0)), some (.inl ((0 : Nat) : Int)), none, none] [] σ := by
    rw [entX7_goFolds_h1]
    simp (disch := omega) only [eX7_goFolds_h1_0, eX7_goFolds_h1_1, eX7_goFolds_h1_2, eX7_goFolds_h1_5, eX7_goFolds_h1_6, eX7_goFolds_h1_7, eX7_goFolds_h1_8, eX7_goFolds_h1_11, eX7_goFolds_h1_12, eX7_goFolds_h1_13, eX7_goFolds_h1_17, eX7_goFolds_h1_18, eX7_goFolds_h1_21, eX7_goFolds_h1_23, eX7_goFolds_h1_24, eX7_goFolds_h1_27, eX7_goFolds_h1_28, eX7_goFolds_h1_31, eX7_goFolds_h1_32, eX7_goFolds_h1_36, eX7_goFolds_h1_38, eX7_goFolds_h1_39, eX7_goFolds_h1_42, eX7_goFolds_h1_43, eX7_goFolds_h1_46, eX7_goFolds_h1_47, eX7_goFolds_h1_50, eX7_goFolds_h1_51, eX7_goFolds_h1_55, eX7_goFolds_h1_56, eX7_goFolds_h1_59, eX7_goFolds_h1_60, eX7_goFolds_h1_63, eX7_goFolds_h1_64, eX7_goFolds_h1_66, eX7_goFolds_h1_67, eX7_goFolds_h1_68, eX7_goFolds_h1_71, eX7_goFolds_h1_72, eX7_goFolds_h1_74, eX7_goFolds_h1_75, eX7_goFolds_h1_76, eX7_goFolds_h1_79, eX7_goFolds_h1_80, eX7_goFolds_h1_82, eX7_goFolds_h1_83, eX7_goFolds_h1_84, eX7_goFolds_h1_85, eX7_goFolds_h1_86, eX7_goFolds_h1_87, eX7_goFolds_h1_88, eX7_goFolds_h1_89, eX7_goFolds_h1_92, eX7_goFolds_h1_95, eX7_goFolds_h1_96, eX7_goFolds_h1_97, eX7_goFolds_h1_100, eX7_goFolds_h1_103, eX7_goFolds_h1_106, eX7_goFolds_h1_109, eX7_goFolds_h1_112, eX7_goFolds_h1_115, eX7_goFolds_h1_116]
    rw [if_neg (by omega)]
    rfl
  rw [e]
  exact gf1_k Rf Cf nc hC 3 0 l σ none none (by omega) hP hl0 hl h39
theorem gf1_same (Rf Cf : Nat → Nat) (nc : Nat) {σ : fx_M} {z l : Nat} {A : List (Nat × Wy)} (h : MRes z σ l A (fx_Ca (fx_S Rf Cf nc) 120 [.inr (some (20, 0)), .inl 1, .inl (if bo then 1 else 0)] σ) F1 K0) : MRes z σ l A (fx_Ca (fx_S Rf Cf nc) 122 [.inr (some (20, 0)), .inl 1, .inl 1, .inl (if bo then 1 else 0)] σ) F1 K0 := by
  refine h.mp (fun σ' w _ _ q => ⟨?_, q.2⟩) (fun σ' q => ?_)
  · have e := q.1
    rw [entX7_goFolds_h1]
    simp (disch := omega) only [eX7_goFolds_h1_0, eX7_goFolds_h1_1, eX7_goFolds_h1_2, eX7_goFolds_h1_5, eX7_goFolds_h1_6, eX7_goFolds_h1_7, eX7_goFolds_h1_8, eX7_goFolds_h1_11, eX7_goFolds_h1_12, eX7_goFolds_h1_13, eX7_goFolds_h1_17, eX7_goFolds_h1_18, eX7_goFolds_h1_21, eX7_goFolds_h1_23, eX7_goFolds_h1_24, eX7_goFolds_h1_27, eX7_goFolds_h1_28, eX7_goFolds_h1_31, eX7_goFolds_h1_32, eX7_goFolds_h1_36, eX7_goFolds_h1_38, eX7_goFolds_h1_39, eX7_goFolds_h1_42, eX7_goFolds_h1_43, eX7_goFolds_h1_46, eX7_goFolds_h1_47, eX7_goFolds_h1_50, eX7_goFolds_h1_51, eX7_goFolds_h1_55, eX7_goFolds_h1_56, eX7_goFolds_h1_59, eX7_goFolds_h1_60, eX7_goFolds_h1_63, eX7_goFolds_h1_64, eX7_goFolds_h1_66, eX7_goFolds_h1_67, eX7_goFolds_h1_68, eX7_goFolds_h1_71, eX7_goFolds_h1_72, eX7_goFolds_h1_74, eX7_goFolds_h1_75, eX7_goFolds_h1_76, eX7_goFolds_h1_79, eX7_goFolds_h1_80, eX7_goFolds_h1_82, eX7_goFolds_h1_83, eX7_goFolds_h1_84, eX7_goFolds_h1_85, eX7_goFolds_h1_86, eX7_goFolds_h1_87, eX7_goFolds_h1_88, eX7_goFolds_h1_89, eX7_goFolds_h1_92, eX7_goFolds_h1_95, eX7_goFolds_h1_96, eX7_goFolds_h1_97, eX7_goFolds_h1_100, eX7_goFolds_h1_103, eX7_goFolds_h1_106, eX7_goFolds_h1_109, eX7_goFolds_h1_112, eX7_goFolds_h1_115, eX7_goFolds_h1_116, fx_bd_some, Option.toList_some, Option.toList_none, List.nil_append, List.cons_append, fx_uo, fx_ui, Int.toNat_natCast, ↓reduceIte, Int.reduceEq, Int.reduceLT, Int.reduceLE, Int.reduceNeg, e]
  · unfold K0 at *
    rw [entX7_goFolds_h1]
    simp (disch := omega) only [eX7_goFolds_h1_0, eX7_goFolds_h1_1, eX7_goFolds_h1_2, eX7_goFolds_h1_5, eX7_goFolds_h1_6, eX7_goFolds_h1_7, eX7_goFolds_h1_8, eX7_goFolds_h1_11, eX7_goFolds_h1_12, eX7_goFolds_h1_13, eX7_goFolds_h1_17, eX7_goFolds_h1_18, eX7_goFolds_h1_21, eX7_goFolds_h1_23, eX7_goFolds_h1_24, eX7_goFolds_h1_27, eX7_goFolds_h1_28, eX7_goFolds_h1_31, eX7_goFolds_h1_32, eX7_goFolds_h1_36, eX7_goFolds_h1_38, eX7_goFolds_h1_39, eX7_goFolds_h1_42, eX7_goFolds_h1_43, eX7_goFolds_h1_46, eX7_goFolds_h1_47, eX7_goFolds_h1_50, eX7_goFolds_h1_51, eX7_goFolds_h1_55, eX7_goFolds_h1_56, eX7_goFolds_h1_59, eX7_goFolds_h1_60, eX7_goFolds_h1_63, eX7_goFolds_h1_64, eX7_goFolds_h1_66, eX7_goFolds_h1_67, eX7_goFolds_h1_68, eX7_goFolds_h1_71, eX7_goFolds_h1_72, eX7_goFolds_h1_74, eX7_goFolds_h1_75, eX7_goFolds_h1_76, eX7_goFolds_h1_79, eX7_goFolds_h1_80, eX7_goFolds_h1_82, eX7_goFolds_h1_83, eX7_goFolds_h1_84, eX7_goFolds_h1_85, eX7_goFolds_h1_86, eX7_goFolds_h1_87, eX7_goFolds_h1_88, eX7_goFolds_h1_89, eX7_goFolds_h1_92, eX7_goFolds_h1_95, eX7_goFolds_h1_96, eX7_goFolds_h1_97, eX7_goFolds_h1_100, eX7_goFolds_h1_103, eX7_goFolds_h1_106, eX7_goFolds_h1_109, eX7_goFolds_h1_112, eX7_goFolds_h1_115, eX7_goFolds_h1_116, fx_bd_some, Option.toList_some, Option.toList_none, List.nil_append, List.cons_append, fx_uo, fx_ui, Int.toNat_natCast, ↓reduceIte, Int.reduceEq, Int.reduceLT, Int.reduceLE, Int.reduceNeg, q]
end GF1
theorem gf2_same (Rf Cf : Nat → Nat) (nc : Nat) {bo : Bool} {σ : fx_M} {z l : Nat} {A : List (Nat × Wy)} (h : MRes z σ l A (fx_Ca (fx_S Rf Cf nc) 120 [.inr (some (20, 0)), .inl 2, .inl (if bo then 1 else 0)] σ) F1 K0) : MRes z σ l A (fx_Ca (fx_S Rf Cf nc) 123 [.inr (some (20, 0)), .inl 2, .inl 2, .inl (if bo then 1 else 0)] σ) F1 K0 := by
  refine h.mp (fun σ' w _ _ q => ⟨?_, q.2⟩) (fun σ' q => ?_)
  · have e := q.1
    rw [entX7_goFolds_h2]
    simp (disch := omega) only [eX7_goFolds_h2_0, eX7_goFolds_h2_1, eX7_goFolds_h2_2, eX7_goFolds_h2_5, eX7_goFolds_h2_6, eX7_goFolds_h2_7, eX7_goFolds_h2_8, eX7_goFolds_h2_11, eX7_goFolds_h2_12, eX7_goFolds_h2_13, eX7_goFolds_h2_17, eX7_goFolds_h2_18, eX7_goFolds_h2_21, eX7_goFolds_h2_23, eX7_goFolds_h2_24, eX7_goFolds_h2_27, eX7_goFolds_h2_28, eX7_goFolds_h2_31, eX7_goFolds_h2_32, eX7_goFolds_h2_36, eX7_goFolds_h2_38, eX7_goFolds_h2_39, eX7_goFolds_h2_42, eX7_goFolds_h2_43, eX7_goFolds_h2_46, eX7_goFolds_h2_47, eX7_goFolds_h2_50, eX7_goFolds_h2_51, eX7_goFolds_h2_53, eX7_goFolds_h2_55, eX7_goFolds_h2_56, eX7_goFolds_h2_59, eX7_goFolds_h2_60, eX7_goFolds_h2_63, eX7_goFolds_h2_64, eX7_goFolds_h2_66, eX7_goFolds_h2_67, eX7_goFolds_h2_68, eX7_goFolds_h2_71, eX7_goFolds_h2_72, eX7_goFolds_h2_74, eX7_goFolds_h2_75, eX7_goFolds_h2_76, eX7_goFolds_h2_79, eX7_goFolds_h2_80, eX7_goFolds_h2_82, eX7_goFolds_h2_83, eX7_goFolds_h2_84, eX7_goFolds_h2_85, eX7_goFolds_h2_86, eX7_goFolds_h2_87, eX7_goFolds_h2_88, eX7_goFolds_h2_103, eX7_goFolds_h2_106, eX7_goFolds_h2_109, eX7_goFolds_h2_112, eX7_goFolds_h2_115, eX7_goFolds_h2_116, fx_bd_some, Option.toList_some, Option.toList_none, List.nil_append, List.cons_append, fx_uo, fx_ui, Int.toNat_natCast, ↓reduceIte, Int.reduceEq, Int.reduceLT, Int.reduceLE, Int.reduceNeg, e]
  · unfold K0 at *
    rw [entX7_goFolds_h2]
    simp (disch := omega) only [eX7_goFolds_h2_0, eX7_goFolds_h2_1, eX7_goFolds_h2_2, eX7_goFolds_h2_5, eX7_goFolds_h2_6, eX7_goFolds_h2_7, eX7_goFolds_h2_8, eX7_goFolds_h2_11, eX7_goFolds_h2_12, eX7_goFolds_h2_13, eX7_goFolds_h2_17, eX7_goFolds_h2_18, eX7_goFolds_h2_21, eX7_goFolds_h2_23, eX7_goFolds_h2_24, eX7_goFolds_h2_27, eX7_goFolds_h2_28, eX7_goFolds_h2_31, eX7_goFolds_h2_32, eX7_goFolds_h2_36, eX7_goFolds_h2_38, eX7_goFolds_h2_39, eX7_goFolds_h2_42, eX7_goFolds_h2_43, eX7_goFolds_h2_46, eX7_goFolds_h2_47, eX7_goFolds_h2_50, eX7_goFolds_h2_51, eX7_goFolds_h2_53, eX7_goFolds_h2_55, eX7_goFolds_h2_56, eX7_goFolds_h2_59, eX7_goFolds_h2_60, eX7_goFolds_h2_63, eX7_goFolds_h2_64, eX7_goFolds_h2_66, eX7_goFolds_h2_67, eX7_goFolds_h2_68, eX7_goFolds_h2_71, eX7_goFolds_h2_72, eX7_goFolds_h2_74, eX7_goFolds_h2_75, eX7_goFolds_h2_76, eX7_goFolds_h2_79, eX7_goFolds_h2_80, eX7_goFolds_h2_82, eX7_goFolds_h2_83, eX7_goFolds_h2_84, eX7_goFolds_h2_85, eX7_goFolds_h2_86, eX7_goFolds_h2_87, eX7_goFolds_h2_88, eX7_goFolds_h2_103, eX7_goFolds_h2_106, eX7_goFolds_h2_109, eX7_goFolds_h2_112, eX7_goFolds_h2_115, eX7_goFolds_h2_116, fx_bd_some, Option.toList_some, Option.toList_none, List.nil_append, List.cons_append, fx_uo, fx_ui, Int.toNat_natCast, ↓reduceIte, Int.reduceEq, Int.reduceLT, Int.reduceLE, Int.reduceNeg, q]
theorem sp_goFolds (Rf Cf : Nat → Nat) (nc : Nat) {R C m l many : Nat} {mi st : Int} {bo : Bool} {σ : fx_M} (hK : MK R C m mi st σ) (hm : many ≤ 2) (hl0 : 0 < l) (hl : l ≤ 1000000) (h39 : σ 20 0 39 = (l : Int)) : MRes 3 σ l (mdl R C m many bo) (fx_Ca (fx_S Rf Cf nc) 121 [.inr (some (20, 0)), .inl 0, .inl (many : Int), .inl (if bo then 1 else 0)] σ) F1 K0 := by
  rcases (show many = 0 ∨ many = 1 ∨ many = 2 by omega) with rfl | rfl | rfl
  · have e : mdl R C m 0 bo = wyB R C m [] bo (opn R C) := rfl
    rw [e]
    exact (gf0_same Rf Cf nc (tfs0 Rf Cf nc hK h39 hl0 hl)).up (by omega)
  · have e : mdl R C m 1 bo = (allF 0).flatMap (wy1 R C m bo) := rfl
    rw [e]
    refine gf0 Rf Cf nc (many := 1) (Pre := fun σ => MK R C m mi st σ) ⟨fun σ σ' h q => ?_, fun f σ l q1 q2 q3 hP t1 t2 t3 hl0 hl h39 => ?_⟩ (by omega) (by omega) hK hl0 hl h39
    · obtain ⟨l, q⟩ := q
      exact h.mt q
    · refine (gf1_same Rf Cf nc (tfs1 Rf Cf nc hP h39 hl0 hl f q1 q2 q3 (fun i g hg => ?_))).up (by omega)
      match i with
      | 0 =>
        obtain rfl : f = g := by simpa using hg
        exact ⟨t1, t2, t3⟩
      | i + 1 => simp at hg
  · have e : mdl R C m 2 bo = (allF 0).flatMap (fun f => (allF 0).flatMap (wy2 R C m bo f)) := rfl
    rw [e]
    refine gf0 Rf Cf nc (many := 2) (Pre := fun σ => MK R C m mi st σ) ⟨fun σ σ' h q => ?_, fun f σ l q1 q2 q3 hP t1 t2 t3 hl0 hl h39 => ?_⟩ (by omega) (by omega) hK hl0 hl h39
    · obtain ⟨l, q⟩ := q
      exact h.mt q
    · refine (gf1 Rf Cf nc (many := 2) (Pre := fun σ => MK R C m mi st σ ∧ σ 59 0 0 = (f.1 : Int) ∧ σ 60 0 0 = (f.2.1 : Int) ∧ σ 61 0 0 = (f.2.2 : Int)) ⟨fun σ σ' h q => ?_, fun g σ l p1 p2 p3 hP y1 y2 y3 hl0 hl h39 => ?_⟩ (by omega) (by omega) ⟨hP, t1, t2, t3⟩ hl0 hl h39).up (by omega)
      · obtain ⟨l, q⟩ := q
        refine ⟨h.1.mt q, ?_, ?_, ?_⟩
        · rw [q.1 _ _ _ (by omega)]; exact h.2.1
        · rw [q.1 _ _ _ (by omega)]; exact h.2.2.1
        · rw [q.1 _ _ _ (by omega)]; exact h.2.2.2
      · refine (gf2_same Rf Cf nc (tfs2 Rf Cf nc hP.1 h39 hl0 hl f g q1 q2 q3 p1 p2 p3 (fun i x hx => ?_))).up (by omega)
        match i with
        | 0 =>
          obtain rfl : f = x := by simpa using hx
          exact hP.2
        | 1 =>
          obtain rfl : g = x := by simpa using hx
          exact ⟨y1, y2, y3⟩
        | i + 2 => simp at hx
