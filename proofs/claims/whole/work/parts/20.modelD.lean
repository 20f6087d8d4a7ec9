/-! the reference: what a fold wants; boards; sides -/
theorem sp_isFold (Rf Cf : Nat → Nat) (nc : Nat) (σ : fx_M) (c : Nat) (kd ln how : Int) (hc : c < 7) (h1 : fx_in kd) (h2 : fx_in ln) (h3 : fx_in how) (br bc : Nat) (hb : br ≤ 12) (hb2 : bc ≤ 12) (m3 : σ 37 0 c = br) (m4 : σ 38 0 c = bc) : fx_Ca (fx_S Rf Cf nc) 85 [.inr (some (20, 0)), .inl (c : Int), .inl kd, .inl ln, .inl how] σ = some (some (.inl (if ¬ (0 ≤ kd ∧ kd ≤ 2 ∧ 0 ≤ how ∧ how ≤ 1) then -1 else if kd = 2 then (if ln = 0 then (if br = bc ∧ br ≠ 1 then 0 else -3) else -1) else if 1 ≤ ln ∧ ln < (if kd = 0 then bc else br : Nat) then 0 else -1)), σ) := by
  rw [entX7_isFold]
  by_cases q1 : 0 ≤ kd ∧ kd ≤ 2
  · by_cases q2 : 0 ≤ how ∧ how ≤ 1
    · rcases (show kd = 0 ∨ kd = 1 ∨ kd = 2 by omega) with rfl | rfl | rfl
      all_goals
        simp (disch := omega) only [eX7_isFold_0, eX7_isFold_1, eX7_isFold_2, eX7_isFold_3, eX7_isFold_6, eX7_isFold_9, eX7_isFold_11, eX7_isFold_12, eX7_isFold_13, eX7_isFold_16, eX7_isFold_19, eX7_isFold_20, eX7_isFold_21, eX7_isFold_22, eX7_isFold_23, eX7_isFold_26, eX7_isFold_27, eX7_isFold_30, eX7_isFold_33, eX7_isFold_34, eX7_isFold_35, eX7_isFold_38, eX7_isFold_39, eX7_isFold_40, eX7_isFold_43, eX7_isFold_44, eX7_isFold_47, eX7_isFold_48, eX7_isFold_49, eX7_isFold_52, eX7_isFold_53, eX7_isFold_56, eX7_isFold_57, eX7_isFold_58, eX7_isFold_61, eX7_isFold_62, eX7_isFold_63, eX7_isFold_64, eX7_isFold_65, eX7_isFold_68, eX7_isFold_69, eX7_isFold_72, eX7_isFold_73, eX7_isFold_74, eX7_isFold_75, eX7_isFold_78, eX7_isFold_79, eX7_isFold_80, eX7_isFold_83, eX7_isFold_84, eX7_isFold_87, eX7_isFold_88, eX7_isFold_89, eX7_isFold_90, eX7_isFold_93, eX7_isFold_95, eX7_isFold_98, eX7_isFold_99, fx_bd_some, Option.toList_some, Option.toList_none, List.nil_append, List.cons_append, fx_uo, fx_ui, Int.toNat_natCast, ↓reduceIte, Int.reduceEq, Int.reduceLT, Int.reduceLE, Int.reduceNeg, sp_within, q1, q2, m3, m4]
        simp
        try grind
    · simp (disch := omega) only [eX7_isFold_0, eX7_isFold_1, eX7_isFold_2, eX7_isFold_3, eX7_isFold_6, eX7_isFold_9, eX7_isFold_11, eX7_isFold_12, eX7_isFold_13, eX7_isFold_16, eX7_isFold_19, eX7_isFold_20, eX7_isFold_21, eX7_isFold_22, eX7_isFold_23, eX7_isFold_26, eX7_isFold_27, eX7_isFold_30, eX7_isFold_33, eX7_isFold_34, eX7_isFold_35, eX7_isFold_38, eX7_isFold_39, eX7_isFold_40, eX7_isFold_43, eX7_isFold_44, eX7_isFold_47, eX7_isFold_48, eX7_isFold_49, eX7_isFold_52, eX7_isFold_53, eX7_isFold_56, eX7_isFold_57, eX7_isFold_58, eX7_isFold_61, eX7_isFold_62, eX7_isFold_63, eX7_isFold_64, eX7_isFold_65, eX7_isFold_68, eX7_isFold_69, eX7_isFold_72, eX7_isFold_73, eX7_isFold_74, eX7_isFold_75, eX7_isFold_78, eX7_isFold_79, eX7_isFold_80, eX7_isFold_83, eX7_isFold_84, eX7_isFold_87, eX7_isFold_88, eX7_isFold_89, eX7_isFold_90, eX7_isFold_93, eX7_isFold_95, eX7_isFold_98, eX7_isFold_99, fx_bd_some, Option.toList_some, Option.toList_none, List.nil_append, List.cons_append, fx_uo, fx_ui, Int.toNat_natCast, ↓reduceIte, Int.reduceEq, Int.reduceLT, Int.reduceLE, Int.reduceNeg, sp_within, q1, q2, m3, m4]
      simp
      try grind
  · simp (disch := omega) only [eX7_isFold_0, eX7_isFold_1, eX7_isFold_2, eX7_isFold_3, eX7_isFold_6, eX7_isFold_9, eX7_isFold_11, eX7_isFold_12, eX7_isFold_13, eX7_isFold_16, eX7_isFold_19, eX7_isFold_20, eX7_isFold_21, eX7_isFold_22, eX7_isFold_23, eX7_isFold_26, eX7_isFold_27, eX7_isFold_30, eX7_isFold_33, eX7_isFold_34, eX7_isFold_35, eX7_isFold_38, eX7_isFold_39, eX7_isFold_40, eX7_isFold_43, eX7_isFold_44, eX7_isFold_47, eX7_isFold_48, eX7_isFold_49, eX7_isFold_52, eX7_isFold_53, eX7_isFold_56, eX7_isFold_57, eX7_isFold_58, eX7_isFold_61, eX7_isFold_62, eX7_isFold_63, eX7_isFold_64, eX7_isFold_65, eX7_isFold_68, eX7_isFold_69, eX7_isFold_72, eX7_isFold_73, eX7_isFold_74, eX7_isFold_75, eX7_isFold_78, eX7_isFold_79, eX7_isFold_80, eX7_isFold_83, eX7_isFold_84, eX7_isFold_87, eX7_isFold_88, eX7_isFold_89, eX7_isFold_90, eX7_isFold_93, eX7_isFold_95, eX7_isFold_98, eX7_isFold_99, fx_bd_some, Option.toList_some, Option.toList_none, List.nil_append, List.cons_append, fx_uo, fx_ui, Int.toNat_natCast, ↓reduceIte, Int.reduceEq, Int.reduceLT, Int.reduceLE, Int.reduceNeg, sp_within, q1, m3, m4]
    grind
theorem sp_addBoard (Rf Cf : Nat → Nat) (nc : Nat) (σ : fx_M) (c b : Nat) (r0 r1 c0 c1 : Int) (hc : c < 7) (hb : b < 6) (m : σ 42 0 c = b) : fx_Ca (fx_S Rf Cf nc) 92 [.inr (some (20, 0)), .inl (c : Int), .inl r0, .inl r1, .inl c0, .inl c1] σ = some (none, fx_up (fx_up (fx_up (fx_up (fx_up σ 43 0 (6 * c + b) r0) 44 0 (6 * c + b) r1) 45 0 (6 * c + b) c0) 46 0 (6 * c + b) c1) 42 0 c (b + 1)) := by
  rw [entX7_addBoard]
  have i1 : (6 * (c : Int) + (b : Int)).toNat = 6 * c + b := by omega
  simp (disch := omega) only [eX7_addBoard_0, eX7_addBoard_2, eX7_addBoard_3, eX7_addBoard_4, eX7_addBoard_5, eX7_addBoard_8, eX7_addBoard_9, eX7_addBoard_10, eX7_addBoard_11, eX7_addBoard_13, eX7_addBoard_14, eX7_addBoard_17, eX7_addBoard_19, eX7_addBoard_20, eX7_addBoard_21, eX7_addBoard_22, eX7_addBoard_25, eX7_addBoard_27, eX7_addBoard_28, eX7_addBoard_29, eX7_addBoard_30, eX7_addBoard_33, eX7_addBoard_35, eX7_addBoard_37, eX7_addBoard_38, eX7_addBoard_39, eX7_addBoard_42, eX7_addBoard_44, eX7_addBoard_46, eX7_addBoard_47, eX7_addBoard_48, eX7_addBoard_51, eX7_addBoard_52, eX7_addBoard_53, eX7_addBoard_54, eX7_addBoard_55, eX7_addBoard_56, eX7_addBoard_57, fx_bd_some, Option.toList_some, Option.toList_none, List.nil_append, List.cons_append, fx_uo, fx_ui, Int.toNat_natCast, ↓reduceIte, Int.reduceEq, Int.reduceLT, Int.reduceLE, Int.reduceNeg, m, i1]
def anyP : Nat → (Nat → Bool) → Bool
  | 0, _ => false
  | n + 1, P => anyP n P || P n
theorem anyP_iff {n : Nat} {P : Nat → Bool} : anyP n P = true ↔ ∃ k, k < n ∧ P k = true := by
  induction n with
  | zero => simp [anyP]
  | succ n ih =>
    simp only [anyP, Bool.or_eq_true, ih]
    constructor
    · rintro (⟨k, h1, h2⟩ | h)
      · exact ⟨k, by omega, h2⟩
      · exact ⟨n, by omega, h⟩
    · rintro ⟨k, h1, h2⟩
      by_cases hk : k = n
      · subst hk; exact Or.inr h2
      · exact Or.inl ⟨k, by omega, h2⟩
/-- under a board of the reference's cloth c -/
def shB (c b : Nat) (σ : fx_M) (r n : Nat) : Bool := anyP b (fun j => decide (σ 43 0 (6 * c + j) ≤ r ∧ (r : Int) ≤ σ 44 0 (6 * c + j) ∧ σ 45 0 (6 * c + j) ≤ n ∧ (n : Int) ≤ σ 46 0 (6 * c + j)))
/-- the boards of the reference's cloth c -/
def MBo (c b : Nat) (σ : fx_M) : Prop := b ≤ 6 ∧ σ 42 0 c = b ∧ ∀ j, j < b → fx_in (σ 43 0 (6 * c + j)) ∧ fx_in (σ 44 0 (6 * c + j)) ∧ fx_in (σ 45 0 (6 * c + j)) ∧ fx_in (σ 46 0 (6 * c + j))
theorem sp_isShut_lp (Rf Cf : Nat → Nat) (nc : Nat) (σ : fx_M) (c b r n : Nat) (hc : c < 7) (hB : MBo c b σ) (hr : r < 100) (hn : n < 100) : ∀ (d j : Nat) (a : Bool), j + d = b → a = shB c j σ r n → fx_E (fx_S Rf Cf nc) 95 9 [some (.inr (some (20, 0))), some (.inl (c : Int)), some (.inl (r : Int)), some (.inl (n : Int)), some (.inl (if a then 1 else 0)), some (.inl ((6 * c + j : Nat) : Int))] [] σ = some (some (.inl (if shB c b σ r n then 1 else 0)), σ)
  | 0, j, a, h, ha => by
    obtain rfl : j = b := by omega
    obtain ⟨h1, h2, h3⟩ := id hB
    rw [eX7_isShut_9]
    simp (disch := omega) only [eX7_isShut_0, eX7_isShut_1, eX7_isShut_3, eX7_isShut_5, eX7_isShut_6, eX7_isShut_7, eX7_isShut_11, eX7_isShut_13, eX7_isShut_14, eX7_isShut_15, eX7_isShut_16, eX7_isShut_19, eX7_isShut_20, eX7_isShut_21, eX7_isShut_22, eX7_isShut_25, eX7_isShut_27, eX7_isShut_30, eX7_isShut_31, eX7_isShut_32, eX7_isShut_35, eX7_isShut_37, eX7_isShut_38, eX7_isShut_39, eX7_isShut_42, eX7_isShut_44, eX7_isShut_45, eX7_isShut_48, eX7_isShut_51, eX7_isShut_52, eX7_isShut_53, eX7_isShut_56, eX7_isShut_58, eX7_isShut_59, eX7_isShut_60, eX7_isShut_63, eX7_isShut_65, eX7_isShut_66, eX7_isShut_69, eX7_isShut_72, eX7_isShut_73, eX7_isShut_76, eX7_isShut_77, eX7_isShut_79, eX7_isShut_82, eX7_isShut_85, eX7_isShut_87, fx_bd_some, Option.toList_some, Option.toList_none, List.nil_append, List.cons_append, fx_uo, fx_ui, Int.toNat_natCast, ↓reduceIte, Int.reduceEq, Int.reduceLT, Int.reduceLE, Int.reduceNeg, h2]
    rw [if_neg (by omega), ha]
  | d + 1, j, a, h, ha => by
    obtain ⟨h1, h2, h3⟩ := id hB
    obtain ⟨g1, g2, g3, g4⟩ := h3 j (by omega)
    have hj1 : (((6 * c + j : Nat) : Int) < 6 * (c : Int) + (b : Int)) = True := by simp; omega
    have hs : shB c (j + 1) σ r n = (a || decide (σ 43 0 (6 * c + j) ≤ r ∧ (r : Int) ≤ σ 44 0 (6 * c + j) ∧ σ 45 0 (6 * c + j) ≤ n ∧ (n : Int) ≤ σ 46 0 (6 * c + j))) := by rw [ha]; rfl
    have fin : ∀ (v : Int), v = (if shB c (j + 1) σ r n then 1 else 0) → fx_E (fx_S Rf Cf nc) 95 9 [some (.inr (some (20, 0))), some (.inl (c : Int)), some (.inl (r : Int)), some (.inl (n : Int)), some (.inl v), some (.inl (((6 * c + j : Nat) : Int) + 1))] [] σ = some (some (.inl (if shB c b σ r n then 1 else 0)), σ) := by
      intro v hv
      rw [hv, show ((6 * c + j : Nat) : Int) + 1 = ((6 * c + (j + 1) : Nat) : Int) by omega]
      exact sp_isShut_lp Rf Cf nc σ c b r n hc hB hr hn d (j + 1) _ (by omega) rfl
    rw [eX7_isShut_9]
    cases a with
    | true =>
      simp (disch := omega) only [eX7_isShut_0, eX7_isShut_1, eX7_isShut_3, eX7_isShut_5, eX7_isShut_6, eX7_isShut_7, eX7_isShut_11, eX7_isShut_13, eX7_isShut_14, eX7_isShut_15, eX7_isShut_16, eX7_isShut_19, eX7_isShut_20, eX7_isShut_21, eX7_isShut_22, eX7_isShut_25, eX7_isShut_27, eX7_isShut_30, eX7_isShut_31, eX7_isShut_32, eX7_isShut_35, eX7_isShut_37, eX7_isShut_38, eX7_isShut_39, eX7_isShut_42, eX7_isShut_44, eX7_isShut_45, eX7_isShut_48, eX7_isShut_51, eX7_isShut_52, eX7_isShut_53, eX7_isShut_56, eX7_isShut_58, eX7_isShut_59, eX7_isShut_60, eX7_isShut_63, eX7_isShut_65, eX7_isShut_66, eX7_isShut_69, eX7_isShut_72, eX7_isShut_73, eX7_isShut_76, eX7_isShut_77, eX7_isShut_79, eX7_isShut_82, eX7_isShut_85, eX7_isShut_87, fx_bd_some, Option.toList_some, Option.toList_none, List.nil_append, List.cons_append, fx_uo, fx_ui, Int.toNat_natCast, ↓reduceIte, Int.reduceEq, Int.reduceLT, Int.reduceLE, Int.reduceNeg, h2, hj1, if_true]
      exact fin _ (by rw [hs]; simp)
    | false =>
      by_cases q1 : σ 43 0 (6 * c + j) ≤ r ∧ (r : Int) ≤ σ 44 0 (6 * c + j)
      · by_cases q2 : σ 45 0 (6 * c + j) ≤ n ∧ (n : Int) ≤ σ 46 0 (6 * c + j)
        · simp (disch := omega) only [eX7_isShut_0, eX7_isShut_1, eX7_isShut_3, eX7_isShut_5, eX7_isShut_6, eX7_isShut_7, eX7_isShut_11, eX7_isShut_13, eX7_isShut_14, eX7_isShut_15, eX7_isShut_16, eX7_isShut_19, eX7_isShut_20, eX7_isShut_21, eX7_isShut_22, eX7_isShut_25, eX7_isShut_27, eX7_isShut_30, eX7_isShut_31, eX7_isShut_32, eX7_isShut_35, eX7_isShut_37, eX7_isShut_38, eX7_isShut_39, eX7_isShut_42, eX7_isShut_44, eX7_isShut_45, eX7_isShut_48, eX7_isShut_51, eX7_isShut_52, eX7_isShut_53, eX7_isShut_56, eX7_isShut_58, eX7_isShut_59, eX7_isShut_60, eX7_isShut_63, eX7_isShut_65, eX7_isShut_66, eX7_isShut_69, eX7_isShut_72, eX7_isShut_73, eX7_isShut_76, eX7_isShut_77, eX7_isShut_79, eX7_isShut_82, eX7_isShut_85, eX7_isShut_87, fx_bd_some, Option.toList_some, Option.toList_none, List.nil_append, List.cons_append, fx_uo, fx_ui, Int.toNat_natCast, ↓reduceIte, Int.reduceEq, Int.reduceLT, Int.reduceLE, Int.reduceNeg, h2, hj1, sp_within, q1, q2, and_self, Bool.false_eq_true, if_false]
          exact fin _ (by rw [hs]; simp [q1, q2])
        · simp (disch := omega) only [eX7_isShut_0, eX7_isShut_1, eX7_isShut_3, eX7_isShut_5, eX7_isShut_6, eX7_isShut_7, eX7_isShut_11, eX7_isShut_13, eX7_isShut_14, eX7_isShut_15, eX7_isShut_16, eX7_isShut_19, eX7_isShut_20, eX7_isShut_21, eX7_isShut_22, eX7_isShut_25, eX7_isShut_27, eX7_isShut_30, eX7_isShut_31, eX7_isShut_32, eX7_isShut_35, eX7_isShut_37, eX7_isShut_38, eX7_isShut_39, eX7_isShut_42, eX7_isShut_44, eX7_isShut_45, eX7_isShut_48, eX7_isShut_51, eX7_isShut_52, eX7_isShut_53, eX7_isShut_56, eX7_isShut_58, eX7_isShut_59, eX7_isShut_60, eX7_isShut_63, eX7_isShut_65, eX7_isShut_66, eX7_isShut_69, eX7_isShut_72, eX7_isShut_73, eX7_isShut_76, eX7_isShut_77, eX7_isShut_79, eX7_isShut_82, eX7_isShut_85, eX7_isShut_87, fx_bd_some, Option.toList_some, Option.toList_none, List.nil_append, List.cons_append, fx_uo, fx_ui, Int.toNat_natCast, ↓reduceIte, Int.reduceEq, Int.reduceLT, Int.reduceLE, Int.reduceNeg, h2, hj1, sp_within, q1, q2, and_self, Bool.false_eq_true, if_false]
          exact fin _ (by rw [hs]; simp [q1]; omega)
      · simp (disch := omega) only [eX7_isShut_0, eX7_isShut_1, eX7_isShut_3, eX7_isShut_5, eX7_isShut_6, eX7_isShut_7, eX7_isShut_11, eX7_isShut_13, eX7_isShut_14, eX7_isShut_15, eX7_isShut_16, eX7_isShut_19, eX7_isShut_20, eX7_isShut_21, eX7_isShut_22, eX7_isShut_25, eX7_isShut_27, eX7_isShut_30, eX7_isShut_31, eX7_isShut_32, eX7_isShut_35, eX7_isShut_37, eX7_isShut_38, eX7_isShut_39, eX7_isShut_42, eX7_isShut_44, eX7_isShut_45, eX7_isShut_48, eX7_isShut_51, eX7_isShut_52, eX7_isShut_53, eX7_isShut_56, eX7_isShut_58, eX7_isShut_59, eX7_isShut_60, eX7_isShut_63, eX7_isShut_65, eX7_isShut_66, eX7_isShut_69, eX7_isShut_72, eX7_isShut_73, eX7_isShut_76, eX7_isShut_77, eX7_isShut_79, eX7_isShut_82, eX7_isShut_85, eX7_isShut_87, fx_bd_some, Option.toList_some, Option.toList_none, List.nil_append, List.cons_append, fx_uo, fx_ui, Int.toNat_natCast, ↓reduceIte, Int.reduceEq, Int.reduceLT, Int.reduceLE, Int.reduceNeg, h2, hj1, sp_within, q1, Bool.false_eq_true, if_false]
        exact fin _ (by rw [hs]; simp; omega)
theorem sp_isShut (Rf Cf : Nat → Nat) (nc : Nat) (σ : fx_M) (c b r n : Nat) (hc : c < 7) (hB : MBo c b σ) (hr : r < 100) (hn : n < 100) : fx_Ca (fx_S Rf Cf nc) 95 [.inr (some (20, 0)), .inl (c : Int), .inl (r : Int), .inl (n : Int)] σ = some (some (.inl (if shB c b σ r n then 1 else 0)), σ) := by
  rw [entX7_isShut]
  simp only [eX7_isShut_0, eX7_isShut_1, eX7_isShut_3, eX7_isShut_5, eX7_isShut_6, eX7_isShut_7, eX7_isShut_11, eX7_isShut_13, eX7_isShut_14, eX7_isShut_15, eX7_isShut_16, eX7_isShut_19, eX7_isShut_20, eX7_isShut_21, eX7_isShut_22, eX7_isShut_25, eX7_isShut_27, eX7_isShut_30, eX7_isShut_31, eX7_isShut_32, eX7_isShut_35, eX7_isShut_37, eX7_isShut_38, eX7_isShut_39, eX7_isShut_42, eX7_isShut_44, eX7_isShut_45, eX7_isShut_48, eX7_isShut_51, eX7_isShut_52, eX7_isShut_53, eX7_isShut_56, eX7_isShut_58, eX7_isShut_59, eX7_isShut_60, eX7_isShut_63, eX7_isShut_65, eX7_isShut_66, eX7_isShut_69, eX7_isShut_72, eX7_isShut_73, eX7_isShut_76, eX7_isShut_77, eX7_isShut_79, eX7_isShut_82, eX7_isShut_85, eX7_isShut_87]
  exact sp_isShut_lp Rf Cf nc σ c b r n hc hB hr hn b 0 false (by omega) rfl
/-- how many cells lie at a place, also beside the bundle -/
def szA (R C br bc : Nat) (pr pc : Nat → Nat) (r n : Int) : Nat := if 0 ≤ r ∧ r < br ∧ 0 ≤ n ∧ n < bc then siz R C pr pc (12 * r.toNat + n.toNat) else 0
def bare (R C br bc : Nat) (pr pc : Nat → Nat) (r n : Int) : Bool := decide (szA R C br bc pr pc (r - 1) n = 0 ∨ szA R C br bc pr pc (r + 1) n = 0 ∨ szA R C br bc pr pc r (n - 1) = 0 ∨ szA R C br bc pr pc r (n + 1) = 0)
theorem siz_le (R C : Nat) (pr pc : Nat → Nat) (p : Nat) : siz R C pr pc p ≤ 144 := cntP_le _ _
theorem szA_le (R C br bc : Nat) (pr pc : Nat → Nat) (r n : Int) : szA R C br bc pr pc r n ≤ 144 := by
  unfold szA
  split
  · exact siz_le _ _ _ _ _
  · omega
theorem sp_stackAt (Rf Cf : Nat → Nat) (nc : Nat) (σ : fx_M) {c R C br bc : Nat} {pr pc : Nat → Nat} (hc : c < 7) (hbr : br ≤ 12) (hbc : bc ≤ 12) (m3 : σ 37 0 c = br) (m4 : σ 38 0 c = bc) (hs : ∀ p, p < 144 → σ 51 0 p = siz R C pr pc p) (r n : Int) (hr : fx_in r) (hn : fx_in n) : fx_Ca (fx_S Rf Cf nc) 96 [.inr (some (20, 0)), .inl (c : Int), .inl r, .inl n] σ = some (some (.inl (szA R C br bc pr pc r n : Nat)), σ) := by
  rw [entX7_stackAt]
  unfold szA
  by_cases q : 0 ≤ r ∧ r < br ∧ 0 ≤ n ∧ n < bc
  · rw [if_pos q]
    have i1 : (12 * r + n).toNat = 12 * r.toNat + n.toNat := by omega
    have e := hs (12 * r.toNat + n.toNat) (by omega)
    simp (disch := omega) only [eX7_stackAt_0, eX7_stackAt_1, eX7_stackAt_4, eX7_stackAt_5, eX7_stackAt_6, eX7_stackAt_9, eX7_stackAt_10, eX7_stackAt_11, eX7_stackAt_14, eX7_stackAt_15, eX7_stackAt_18, eX7_stackAt_19, eX7_stackAt_20, eX7_stackAt_23, eX7_stackAt_24, eX7_stackAt_25, eX7_stackAt_28, eX7_stackAt_29, eX7_stackAt_32, eX7_stackAt_34, eX7_stackAt_35, eX7_stackAt_36, eX7_stackAt_37, eX7_stackAt_38, eX7_stackAt_39, eX7_stackAt_42, eX7_stackAt_43, fx_bd_some, Option.toList_some, Option.toList_none, List.nil_append, List.cons_append, fx_uo, fx_ui, Int.toNat_natCast, ↓reduceIte, Int.reduceEq, Int.reduceLT, Int.reduceLE, Int.reduceNeg, m3, m4, i1, e]
    rw [if_neg (by omega), if_pos (by omega), if_neg (by omega), if_pos (by omega)]
  · rw [if_neg q]
    simp (disch := omega) only [eX7_stackAt_0, eX7_stackAt_1, eX7_stackAt_4, eX7_stackAt_5, eX7_stackAt_6, eX7_stackAt_9, eX7_stackAt_10, eX7_stackAt_11, eX7_stackAt_14, eX7_stackAt_15, eX7_stackAt_18, eX7_stackAt_19, eX7_stackAt_20, eX7_stackAt_23, eX7_stackAt_24, eX7_stackAt_25, eX7_stackAt_28, eX7_stackAt_29, eX7_stackAt_32, eX7_stackAt_34, eX7_stackAt_35, eX7_stackAt_36, eX7_stackAt_37, eX7_stackAt_38, eX7_stackAt_39, eX7_stackAt_42, eX7_stackAt_43, fx_bd_some, Option.toList_some, Option.toList_none, List.nil_append, List.cons_append, fx_uo, fx_ui, Int.toNat_natCast, ↓reduceIte, Int.reduceEq, Int.reduceLT, Int.reduceLE, Int.reduceNeg, m3, m4]
    grind
theorem sp_hasBareSide (Rf Cf : Nat → Nat) (nc : Nat) (σ : fx_M) {c R C br bc : Nat} {pr pc : Nat → Nat} (hc : c < 7) (hbr : br ≤ 12) (hbc : bc ≤ 12) (m3 : σ 37 0 c = br) (m4 : σ 38 0 c = bc) (hs : ∀ p, p < 144 → σ 51 0 p = siz R C pr pc p) (r n : Int) (hr : -1000 ≤ r ∧ r ≤ 1000) (hn : -1000 ≤ n ∧ n ≤ 1000) : fx_Ca (fx_S Rf Cf nc) 97 [.inr (some (20, 0)), .inl (c : Int), .inl r, .inl n] σ = some (some (.inl (if bare R C br bc pr pc r n then 1 else 0)), σ) := by
  rw [entX7_hasBareSide]
  have e := fun (r n : Int) (hr : fx_in r) (hn : fx_in n) => sp_stackAt Rf Cf nc σ (R := R) (C := C) (pr := pr) (pc := pc) hc hbr hbc m3 m4 hs r n hr hn
  have l1 := szA_le R C br bc pr pc (r - 1) n
  have l2 := szA_le R C br bc pr pc (r + 1) n
  have l3 := szA_le R C br bc pr pc r (n - 1)
  have l4 := szA_le R C br bc pr pc r (n + 1)
  simp (disch := omega) only [eX7_hasBareSide_0, eX7_hasBareSide_1, eX7_hasBareSide_2, eX7_hasBareSide_3, eX7_hasBareSide_4, eX7_hasBareSide_5, eX7_hasBareSide_6, eX7_hasBareSide_9, eX7_hasBareSide_12, eX7_hasBareSide_13, eX7_hasBareSide_14, eX7_hasBareSide_15, eX7_hasBareSide_16, eX7_hasBareSide_17, eX7_hasBareSide_18, eX7_hasBareSide_21, eX7_hasBareSide_24, eX7_hasBareSide_25, eX7_hasBareSide_26, eX7_hasBareSide_27, eX7_hasBareSide_28, eX7_hasBareSide_29, eX7_hasBareSide_30, eX7_hasBareSide_33, eX7_hasBareSide_36, eX7_hasBareSide_37, eX7_hasBareSide_38, eX7_hasBareSide_39, eX7_hasBareSide_40, eX7_hasBareSide_41, eX7_hasBareSide_42, eX7_hasBareSide_45, eX7_hasBareSide_48, eX7_hasBareSide_49, eX7_hasBareSide_52, eX7_hasBareSide_53, fx_bd_some, Option.toList_some, Option.toList_none, List.nil_append, List.cons_append, fx_uo, fx_ui, Int.toNat_natCast, ↓reduceIte, Int.reduceEq, Int.reduceLT, Int.reduceLE, Int.reduceNeg, e]
  unfold bare
  grind
