/-! wish, told -/
theorem wi_lp (Rf Cf : Nat → Nat) (nc : Nat) (u1 u2 : Option fx_V) : ∀ (d k : Nat) (σ : fx_M), k + d = 48 → fx_E (fx_S Rf Cf nc) 113 32 [some (.inr (some (20, 0))), u1, u2, some (.inl (k : Int))] [] σ = some (some (.inl 1), fx_fr σ 58 0 k 48 (fun _ => 0)) := by
  intro d
  induction d with
  | zero =>
    intro k σ h
    obtain rfl : k = 48 := by omega
    rw [eX7_wish_32]
    simp (disch := omega) only [eX7_wish_0, eX7_wish_1, eX7_wish_2, eX7_wish_3, eX7_wish_6, eX7_wish_9, eX7_wish_10, eX7_wish_11, eX7_wish_12, eX7_wish_15, eX7_wish_18, eX7_wish_19, eX7_wish_20, eX7_wish_21, eX7_wish_22, eX7_wish_25, eX7_wish_26, eX7_wish_27, eX7_wish_30, eX7_wish_31, eX7_wish_33, eX7_wish_35, eX7_wish_38, eX7_wish_39, eX7_wish_42, eX7_wish_43, eX7_wish_44, eX7_wish_45, eX7_wish_48, eX7_wish_51, eX7_wish_52, fx_bd_some, Option.toList_some, Option.toList_none, List.nil_append, List.cons_append, fx_uo, fx_ui, Int.toNat_natCast, ↓reduceIte, Int.reduceEq, Int.reduceLT, Int.reduceLE, Int.reduceNeg]
    rw [if_neg (by omega), fx_fr_nil]
  | succ d ih =>
    intro k σ h
    rw [eX7_wish_32]
    simp (disch := omega) only [eX7_wish_0, eX7_wish_1, eX7_wish_2, eX7_wish_3, eX7_wish_6, eX7_wish_9, eX7_wish_10, eX7_wish_11, eX7_wish_12, eX7_wish_15, eX7_wish_18, eX7_wish_19, eX7_wish_20, eX7_wish_21, eX7_wish_22, eX7_wish_25, eX7_wish_26, eX7_wish_27, eX7_wish_30, eX7_wish_31, eX7_wish_33, eX7_wish_35, eX7_wish_38, eX7_wish_39, eX7_wish_42, eX7_wish_43, eX7_wish_44, eX7_wish_45, eX7_wish_48, eX7_wish_51, eX7_wish_52, fx_bd_some, Option.toList_some, Option.toList_none, List.nil_append, List.cons_append, fx_uo, fx_ui, Int.toNat_natCast, ↓reduceIte, Int.reduceEq, Int.reduceLT, Int.reduceLE, Int.reduceNeg]
    rw [if_pos (by omega), show (k : Int) + 1 = ((k + 1 : Nat) : Int) by omega, ih (k + 1) _ (by omega), fx_fr_up σ 58 0 k 48 (fun _ => 0) (by omega)]
theorem ag_wish (Rf Cf : Nat → Nat) (nc : Nat) {σ : fx_M} (h : Inv Rf Cf nc σ) (r n : Int) (hr : fx_in r) (hn : fx_in n) : Ag Rf Cf nc 58 113 [.inl r, .inl n] σ := by
  by_cases q : (1 ≤ r ∧ r ≤ 4) ∧ (1 ≤ n ∧ n ≤ 4)
  · obtain ⟨R, rfl⟩ : ∃ k : Nat, r = k := ⟨r.toNat, by omega⟩
    obtain ⟨C, rfl⟩ : ∃ k : Nat, n = k := ⟨n.toNat, by omega⟩
    obtain ⟨h1, h2, h3, h4, h5, h6⟩ := id h
    obtain ⟨τ, hτ⟩ : ∃ τ, τ = fx_up (fx_up (fx_up σ 6 0 0 R) 6 0 1 C) 6 0 2 0 := ⟨_, rfl⟩
    obtain ⟨ρ, hρ⟩ : ∃ ρ, ρ = fx_fr (fx_up (fx_up τ 20 0 26 R) 20 0 27 C) 58 0 0 48 (fun _ => 0) := ⟨_, rfl⟩
    have fρ : ∀ o k x, ¬ (o = 6 ∧ k = 0 ∧ x ≤ 2) → ¬ (o = 20 ∧ k = 0 ∧ (x = 26 ∨ x = 27)) → ¬ (o = 58) → ρ o k x = σ o k x := fun o k x a1 a2 a3 => by
      rw [hρ, hτ]; unfold fx_fr fx_up
      rw [if_neg (by omega), if_neg (by omega), if_neg (by omega), if_neg (by omega), if_neg (by omega), if_neg (by omega)]
    refine ⟨1, τ, ρ, ?_, ?_, ?_, fun g hg => ?_, ?_, ?_, h5, h6.of (fun c o i _ _ h3 => by unfold inB at h3; exact fρ _ _ _ (by omega) (by omega) (by omega))⟩
    · rw [entX6_wish]
      simp (disch := omega) only [eX6_wish_0, eX6_wish_1, eX6_wish_2, eX6_wish_5, eX6_wish_6, eX6_wish_7, eX6_wish_10, eX6_wish_11, eX6_wish_12, eX6_wish_15, eX6_wish_16, eX6_wish_17, eX6_wish_20, eX6_wish_21, eX6_wish_22, eX6_wish_23, eX6_wish_26, eX6_wish_27, eX6_wish_30, eX6_wish_31, eX6_wish_34, eX6_wish_35, eX6_wish_38, eX6_wish_39, eX6_wish_42, eX6_wish_43, eX6_wish_46, eX6_wish_47, fx_bd_some, Option.toList_some, Option.toList_none, List.nil_append, List.cons_append, fx_uo, fx_ui, Int.toNat_natCast, ↓reduceIte, Int.reduceEq, Int.reduceLT, Int.reduceLE, Int.reduceNeg]
      repeat (first | rw [if_pos (by omega)] | rw [if_neg (by omega)])
      rw [hτ]
    · have p1 : ((1 : Int) ≤ R ∧ (R : Int) ≤ 4) = True := eq_true q.1
      have p2 : ((1 : Int) ≤ C ∧ (C : Int) ≤ 4) = True := eq_true q.2
      have e := wi_lp Rf Cf nc (some (.inl (R : Int))) (some (.inl (C : Int))) 48 0 (fx_up (fx_up τ 20 0 26 R) 20 0 27 C) (by omega)
      rw [← hρ] at e
      rw [entX7_wish]
      simp (disch := omega) only [eX7_wish_0, eX7_wish_1, eX7_wish_2, eX7_wish_3, eX7_wish_6, eX7_wish_9, eX7_wish_10, eX7_wish_11, eX7_wish_12, eX7_wish_15, eX7_wish_18, eX7_wish_19, eX7_wish_20, eX7_wish_21, eX7_wish_22, eX7_wish_25, eX7_wish_26, eX7_wish_27, eX7_wish_30, eX7_wish_31, eX7_wish_33, eX7_wish_35, eX7_wish_38, eX7_wish_39, eX7_wish_42, eX7_wish_43, eX7_wish_44, eX7_wish_45, eX7_wish_48, eX7_wish_51, eX7_wish_52, fx_bd_some, Option.toList_some, Option.toList_none, List.nil_append, List.cons_append, fx_uo, fx_ui, Int.toNat_natCast, ↓reduceIte, Int.reduceEq, Int.reduceLT, Int.reduceLE, Int.reduceNeg, sp_within, p1, p2]
      exact e
    · unfold I1 at *
      rw [fρ _ _ _ (by omega) (by omega) (by omega), fρ _ _ _ (by omega) (by omega) (by omega), fρ _ _ _ (by omega) (by omega) (by omega), fρ _ _ _ (by omega) (by omega) (by omega), fρ _ _ _ (by omega) (by omega) (by omega), fρ _ _ _ (by omega) (by omega) (by omega), fρ _ _ _ (by omega) (by omega) (by omega), fρ _ _ _ (by omega) (by omega) (by omega)]
      exact h1
    · obtain ⟨R', C', br, bc, f, b, so, pr, pc, ph, sh, to, dp, k1, k2, k3⟩ := h2 g hg
      exact ⟨R', C', br, bc, f, b, so, pr, pc, ph, sh, to, dp, k1, k2.of (fun o i q1 q2 => fρ _ _ _ (by omega) (by omega) (by omega)), k3.of (fun o i q1 => by unfold inB at q1; exact fρ _ _ _ (by omega) (by omega) (by omega))⟩
    · refine ⟨R, C, 0, Or.inr ⟨by omega, by omega⟩, ⟨?_, ?_, ?_, ?_, ?_⟩, by omega, fun k hk => ?_, fun i _ => Nat.zero_testBit i⟩
      · rw [hρ, hτ]; unfold fx_fr fx_up; simp
      · rw [hρ, hτ]; unfold fx_fr fx_up; simp
      · rw [hρ, hτ]; unfold fx_fr fx_up; simp
      · rw [hρ, hτ]; unfold fx_fr fx_up; simp
      · rw [hρ, hτ]; unfold fx_fr fx_up; simp
      · rw [hρ]; unfold fx_fr
        rw [if_pos (by omega), if_neg (by simp)]
    · unfold I3 at *
      rw [fρ 20 _ _ (by omega) (by omega) (by omega), fρ 20 _ _ (by omega) (by omega) (by omega), fρ 20 _ _ (by omega) (by omega) (by omega)]
      refine ⟨h4.1, h4.2.1, h4.2.2.1, fun i j hi hj => ?_⟩
      rw [fρ 11 _ _ (by omega) (by omega) (by omega), fρ 64 _ _ (by omega) (by omega) (by omega), fρ 62 _ _ (by omega) (by omega) (by omega)]
      exact h4.2.2.2 i j hi hj
  · refine Ag.same h (-1) ?_ ?_
    · rw [entX6_wish]
      simp (disch := omega) only [eX6_wish_0, eX6_wish_1, eX6_wish_2, eX6_wish_5, eX6_wish_6, eX6_wish_7, eX6_wish_10, eX6_wish_11, eX6_wish_12, eX6_wish_15, eX6_wish_16, eX6_wish_17, eX6_wish_20, eX6_wish_21, eX6_wish_23, eX6_wish_26, eX6_wish_27, eX6_wish_30, eX6_wish_31, eX6_wish_34, eX6_wish_35, eX6_wish_38, eX6_wish_39, eX6_wish_42, eX6_wish_43, eX6_wish_46, eX6_wish_47, fx_bd_some, Option.toList_some, Option.toList_none, List.nil_append, List.cons_append, fx_uo, fx_ui, Int.toNat_natCast, ↓reduceIte, Int.reduceEq, Int.reduceLT, Int.reduceLE, Int.reduceNeg]
      by_cases q1 : r < 1
      · repeat (first | rw [if_pos (by omega)] | rw [if_neg (by omega)])
      · by_cases q2 : 4 < r
        · repeat (first | rw [if_pos (by omega)] | rw [if_neg (by omega)])
        · by_cases q3 : n < 1
          · repeat (first | rw [if_pos (by omega)] | rw [if_neg (by omega)])
          · repeat (first | rw [if_pos (by omega)] | rw [if_neg (by omega)])
    · rw [entX7_wish]
      by_cases q1 : 1 ≤ r ∧ r ≤ 4
      · have q2 : (1 ≤ n ∧ n ≤ 4) = False := eq_false (by omega)
        simp (disch := omega) only [eX7_wish_0, eX7_wish_1, eX7_wish_2, eX7_wish_3, eX7_wish_6, eX7_wish_9, eX7_wish_10, eX7_wish_11, eX7_wish_12, eX7_wish_15, eX7_wish_18, eX7_wish_19, eX7_wish_21, eX7_wish_22, eX7_wish_25, eX7_wish_26, eX7_wish_27, eX7_wish_30, eX7_wish_31, eX7_wish_33, eX7_wish_35, eX7_wish_38, eX7_wish_39, eX7_wish_42, eX7_wish_43, eX7_wish_44, eX7_wish_45, eX7_wish_48, eX7_wish_51, eX7_wish_52, fx_bd_some, Option.toList_some, Option.toList_none, List.nil_append, List.cons_append, fx_uo, fx_ui, Int.toNat_natCast, ↓reduceIte, Int.reduceEq, Int.reduceLT, Int.reduceLE, Int.reduceNeg, sp_within, eq_true q1, q2]
      · simp (disch := omega) only [eX7_wish_0, eX7_wish_1, eX7_wish_2, eX7_wish_3, eX7_wish_6, eX7_wish_9, eX7_wish_10, eX7_wish_11, eX7_wish_12, eX7_wish_15, eX7_wish_18, eX7_wish_19, eX7_wish_21, eX7_wish_22, eX7_wish_25, eX7_wish_26, eX7_wish_27, eX7_wish_30, eX7_wish_31, eX7_wish_33, eX7_wish_35, eX7_wish_38, eX7_wish_39, eX7_wish_42, eX7_wish_43, eX7_wish_44, eX7_wish_45, eX7_wish_48, eX7_wish_51, eX7_wish_52, fx_bd_some, Option.toList_some, Option.toList_none, List.nil_append, List.cons_append, fx_uo, fx_ui, Int.toNat_natCast, ↓reduceIte, Int.reduceEq, Int.reduceLT, Int.reduceLE, Int.reduceNeg, sp_within, eq_false q1]
theorem ag_told (Rf Cf : Nat → Nat) (nc : Nat) {σ : fx_M} (h : Inv Rf Cf nc σ) (i w : Int) (hi : fx_in i) (hw : fx_in w) : Ag Rf Cf nc 62 128 [.inl i, .inl w] σ := by
  obtain ⟨h1, h2, h3, h4⟩ := id h.2.2.2.1
  by_cases q : (0 ≤ i ∧ i ≤ 2) ∧ (0 ≤ w ∧ w < 4)
  · obtain ⟨a, rfl⟩ : ∃ k : Nat, i = k := ⟨i.toNat, by omega⟩
    obtain ⟨j, rfl⟩ : ∃ k : Nat, w = k := ⟨w.toNat, by omega⟩
    have e := h4 a j (by omega) (by omega)
    have i1 : ((a : Int) * 4 + (j : Int)).toNat = 4 * a + j := by omega
    have i2 : (3 * (a : Int) + (j : Int)).toNat = 3 * a + j := by omega
    refine Ag.same h (σ 11 1 (4 * a + j)) ?_ ?_
    · rw [entX6_told]
      simp (disch := omega) only [eX6_told_0, eX6_told_1, eX6_told_4, eX6_told_5, eX6_told_6, eX6_told_9, eX6_told_10, eX6_told_13, eX6_told_14, eX6_told_15, eX6_told_18, eX6_told_19, eX6_told_20, eX6_told_21, eX6_told_24, eX6_told_27, eX6_told_28, eX6_told_29, eX6_told_30, eX6_told_31, eX6_told_32, eX6_told_33, fx_bd_some, Option.toList_some, Option.toList_none, List.nil_append, List.cons_append, fx_uo, fx_ui, Int.toNat_natCast, ↓reduceIte, Int.reduceEq, Int.reduceLT, Int.reduceLE, Int.reduceNeg, i1]
      repeat (first | rw [if_pos (by omega)] | rw [if_neg (by omega)])
    · rw [entX7_told, e]
      rcases h1 with h1 | h1
      · simp (disch := omega) only [eX7_told_0, eX7_told_1, eX7_told_4, eX7_told_7, eX7_told_8, eX7_told_10, eX7_told_11, eX7_told_14, eX7_told_15, eX7_told_18, eX7_told_21, eX7_told_22, eX7_told_23, eX7_told_24, eX7_told_27, eX7_told_30, eX7_told_31, eX7_told_34, eX7_told_35, eX7_told_36, eX7_told_39, eX7_told_40, eX7_told_41, eX7_told_42, eX7_told_45, eX7_told_46, eX7_told_47, eX7_told_50, eX7_told_53, eX7_told_54, eX7_told_55, eX7_told_56, eX7_told_59, eX7_told_62, eX7_told_63, eX7_told_66, eX7_told_67, eX7_told_68, eX7_told_69, eX7_told_70, eX7_told_71, eX7_told_72, eX7_told_75, eX7_told_76, fx_bd_some, Option.toList_some, Option.toList_none, List.nil_append, List.cons_append, fx_uo, fx_ui, Int.toNat_natCast, ↓reduceIte, Int.reduceEq, Int.reduceLT, Int.reduceLE, Int.reduceNeg, h1]
        simp
      · by_cases ha : a = 2
        · subst ha
          have p1 : ((0 : Int) ≤ j ∧ (j : Int) ≤ 3) = True := eq_true (by omega)
          rcases h2 with h2 | h2
          · simp (disch := omega) only [eX7_told_0, eX7_told_1, eX7_told_4, eX7_told_7, eX7_told_8, eX7_told_9, eX7_told_10, eX7_told_11, eX7_told_14, eX7_told_15, eX7_told_18, eX7_told_21, eX7_told_22, eX7_told_23, eX7_told_24, eX7_told_27, eX7_told_30, eX7_told_31, eX7_told_34, eX7_told_35, eX7_told_36, eX7_told_39, eX7_told_40, eX7_told_41, eX7_told_42, eX7_told_45, eX7_told_46, eX7_told_47, eX7_told_50, eX7_told_53, eX7_told_54, eX7_told_55, eX7_told_56, eX7_told_59, eX7_told_62, eX7_told_63, eX7_told_66, eX7_told_67, eX7_told_68, eX7_told_69, eX7_told_70, eX7_told_71, eX7_told_72, eX7_told_75, eX7_told_76, fx_bd_some, Option.toList_some, Option.toList_none, List.nil_append, List.cons_append, fx_uo, fx_ui, Int.toNat_natCast, ↓reduceIte, Int.reduceEq, Int.reduceLT, Int.reduceLE, Int.reduceNeg, h1, h2, ic2]
            simp
          · simp (disch := omega) only [eX7_told_0, eX7_told_1, eX7_told_4, eX7_told_7, eX7_told_8, eX7_told_9, eX7_told_10, eX7_told_11, eX7_told_14, eX7_told_15, eX7_told_18, eX7_told_21, eX7_told_22, eX7_told_23, eX7_told_24, eX7_told_27, eX7_told_30, eX7_told_31, eX7_told_34, eX7_told_35, eX7_told_36, eX7_told_39, eX7_told_40, eX7_told_41, eX7_told_42, eX7_told_45, eX7_told_46, eX7_told_47, eX7_told_50, eX7_told_53, eX7_told_54, eX7_told_55, eX7_told_56, eX7_told_59, eX7_told_62, eX7_told_63, eX7_told_66, eX7_told_67, eX7_told_68, eX7_told_69, eX7_told_70, eX7_told_71, eX7_told_72, eX7_told_75, eX7_told_76, fx_bd_some, Option.toList_some, Option.toList_none, List.nil_append, List.cons_append, fx_uo, fx_ui, Int.toNat_natCast, ↓reduceIte, Int.reduceEq, Int.reduceLT, Int.reduceLE, Int.reduceNeg, h1, h2, ic2, sp_within, p1]
            simp
        · have p0 : ((a : Int) = 2) = False := eq_false (by omega)
          have p1 : ((a : Int) < 0) = False := eq_false (by omega)
          by_cases p2 : (a : Int) < σ 20 0 33
          · by_cases p3 : j < 3
            · have p4 : ((0 : Int) ≤ j ∧ (j : Int) ≤ 2) = True := eq_true (by omega)
              simp (disch := omega) only [eX7_told_0, eX7_told_1, eX7_told_4, eX7_told_7, eX7_told_8, eX7_told_9, eX7_told_10, eX7_told_11, eX7_told_14, eX7_told_15, eX7_told_18, eX7_told_21, eX7_told_22, eX7_told_23, eX7_told_24, eX7_told_27, eX7_told_30, eX7_told_31, eX7_told_34, eX7_told_35, eX7_told_36, eX7_told_39, eX7_told_40, eX7_told_41, eX7_told_42, eX7_told_45, eX7_told_46, eX7_told_47, eX7_told_50, eX7_told_53, eX7_told_54, eX7_told_55, eX7_told_56, eX7_told_59, eX7_told_62, eX7_told_63, eX7_told_66, eX7_told_67, eX7_told_68, eX7_told_69, eX7_told_70, eX7_told_71, eX7_told_72, eX7_told_75, eX7_told_76, fx_bd_some, Option.toList_some, Option.toList_none, List.nil_append, List.cons_append, fx_uo, fx_ui, Int.toNat_natCast, ↓reduceIte, Int.reduceEq, Int.reduceLT, Int.reduceLE, Int.reduceNeg, h1, p0, p1, eq_true p2, sp_within, p4, i2]
              simp [ha, p2, p3]
            · have p4 : ((0 : Int) ≤ j ∧ (j : Int) ≤ 2) = False := eq_false (by omega)
              simp (disch := omega) only [eX7_told_0, eX7_told_1, eX7_told_4, eX7_told_7, eX7_told_8, eX7_told_9, eX7_told_10, eX7_told_11, eX7_told_14, eX7_told_15, eX7_told_18, eX7_told_21, eX7_told_22, eX7_told_23, eX7_told_24, eX7_told_27, eX7_told_30, eX7_told_31, eX7_told_34, eX7_told_35, eX7_told_36, eX7_told_39, eX7_told_40, eX7_told_41, eX7_told_42, eX7_told_45, eX7_told_46, eX7_told_47, eX7_told_50, eX7_told_53, eX7_told_54, eX7_told_55, eX7_told_56, eX7_told_59, eX7_told_63, eX7_told_66, eX7_told_67, eX7_told_68, eX7_told_69, eX7_told_70, eX7_told_71, eX7_told_72, eX7_told_75, eX7_told_76, fx_bd_some, Option.toList_some, Option.toList_none, List.nil_append, List.cons_append, fx_uo, fx_ui, Int.toNat_natCast, ↓reduceIte, Int.reduceEq, Int.reduceLT, Int.reduceLE, Int.reduceNeg, h1, p0, p1, eq_true p2, sp_within, p4]
              simp [ha, p3]
          · simp (disch := omega) only [eX7_told_0, eX7_told_1, eX7_told_4, eX7_told_7, eX7_told_8, eX7_told_9, eX7_told_10, eX7_told_11, eX7_told_14, eX7_told_15, eX7_told_18, eX7_told_21, eX7_told_22, eX7_told_23, eX7_told_24, eX7_told_27, eX7_told_30, eX7_told_31, eX7_told_34, eX7_told_35, eX7_told_36, eX7_told_39, eX7_told_40, eX7_told_41, eX7_told_42, eX7_told_45, eX7_told_46, eX7_told_47, eX7_told_50, eX7_told_54, eX7_told_55, eX7_told_56, eX7_told_59, eX7_told_62, eX7_told_63, eX7_told_66, eX7_told_67, eX7_told_68, eX7_told_69, eX7_told_70, eX7_told_71, eX7_told_72, eX7_told_75, eX7_told_76, fx_bd_some, Option.toList_some, Option.toList_none, List.nil_append, List.cons_append, fx_uo, fx_ui, Int.toNat_natCast, ↓reduceIte, Int.reduceEq, Int.reduceLT, Int.reduceLE, Int.reduceNeg, h1, p0, p1, eq_false p2]
            simp [ha, p2]
  · refine Ag.same h (-1) ?_ ?_
    · rw [entX6_told]
      simp (disch := omega) only [eX6_told_0, eX6_told_1, eX6_told_4, eX6_told_5, eX6_told_6, eX6_told_9, eX6_told_10, eX6_told_13, eX6_told_14, eX6_told_15, eX6_told_18, eX6_told_19, eX6_told_21, eX6_told_24, eX6_told_27, eX6_told_28, eX6_told_29, eX6_told_30, eX6_told_31, eX6_told_32, eX6_told_33, fx_bd_some, Option.toList_some, Option.toList_none, List.nil_append, List.cons_append, fx_uo, fx_ui, Int.toNat_natCast, ↓reduceIte, Int.reduceEq, Int.reduceLT, Int.reduceLE, Int.reduceNeg]
      by_cases q1 : i < 0
      · repeat (first | rw [if_pos (by omega)] | rw [if_neg (by omega)])
      · by_cases q2 : 2 < i
        · repeat (first | rw [if_pos (by omega)] | rw [if_neg (by omega)])
        · by_cases q3 : w < 0
          · repeat (first | rw [if_pos (by omega)] | rw [if_neg (by omega)])
          · repeat (first | rw [if_pos (by omega)] | rw [if_neg (by omega)])
    · rw [entX7_told]
      rcases h1 with h1 | h1
      · simp (disch := omega) only [eX7_told_0, eX7_told_1, eX7_told_4, eX7_told_7, eX7_told_8, eX7_told_10, eX7_told_11, eX7_told_14, eX7_told_15, eX7_told_18, eX7_told_21, eX7_told_22, eX7_told_23, eX7_told_24, eX7_told_27, eX7_told_30, eX7_told_31, eX7_told_34, eX7_told_35, eX7_told_36, eX7_told_39, eX7_told_40, eX7_told_41, eX7_told_42, eX7_told_45, eX7_told_46, eX7_told_47, eX7_told_50, eX7_told_53, eX7_told_54, eX7_told_55, eX7_told_56, eX7_told_59, eX7_told_62, eX7_told_63, eX7_told_66, eX7_told_67, eX7_told_68, eX7_told_69, eX7_told_70, eX7_told_71, eX7_told_72, eX7_told_75, eX7_told_76, fx_bd_some, Option.toList_some, Option.toList_none, List.nil_append, List.cons_append, fx_uo, fx_ui, Int.toNat_natCast, ↓reduceIte, Int.reduceEq, Int.reduceLT, Int.reduceLE, Int.reduceNeg, h1]
      · by_cases p0 : i = 2
        · have p1 : (0 ≤ w ∧ w ≤ 3) = False := eq_false (by omega)
          rcases h2 with h2 | h2
          · simp (disch := omega) only [eX7_told_0, eX7_told_1, eX7_told_4, eX7_told_7, eX7_told_8, eX7_told_9, eX7_told_10, eX7_told_11, eX7_told_14, eX7_told_15, eX7_told_18, eX7_told_21, eX7_told_22, eX7_told_23, eX7_told_24, eX7_told_27, eX7_told_30, eX7_told_31, eX7_told_34, eX7_told_35, eX7_told_36, eX7_told_39, eX7_told_40, eX7_told_42, eX7_told_45, eX7_told_46, eX7_told_47, eX7_told_50, eX7_told_53, eX7_told_54, eX7_told_55, eX7_told_56, eX7_told_59, eX7_told_62, eX7_told_63, eX7_told_66, eX7_told_67, eX7_told_68, eX7_told_69, eX7_told_70, eX7_told_71, eX7_told_72, eX7_told_75, eX7_told_76, fx_bd_some, Option.toList_some, Option.toList_none, List.nil_append, List.cons_append, fx_uo, fx_ui, Int.toNat_natCast, ↓reduceIte, Int.reduceEq, Int.reduceLT, Int.reduceLE, Int.reduceNeg, h1, eq_true p0, h2]
          · simp (disch := omega) only [eX7_told_0, eX7_told_1, eX7_told_4, eX7_told_7, eX7_told_8, eX7_told_9, eX7_told_10, eX7_told_11, eX7_told_14, eX7_told_15, eX7_told_18, eX7_told_21, eX7_told_22, eX7_told_23, eX7_told_24, eX7_told_27, eX7_told_30, eX7_told_31, eX7_told_34, eX7_told_35, eX7_told_36, eX7_told_39, eX7_told_40, eX7_told_42, eX7_told_45, eX7_told_46, eX7_told_47, eX7_told_50, eX7_told_53, eX7_told_54, eX7_told_55, eX7_told_56, eX7_told_59, eX7_told_62, eX7_told_63, eX7_told_66, eX7_told_67, eX7_told_68, eX7_told_69, eX7_told_70, eX7_told_71, eX7_told_72, eX7_told_75, eX7_told_76, fx_bd_some, Option.toList_some, Option.toList_none, List.nil_append, List.cons_append, fx_uo, fx_ui, Int.toNat_natCast, ↓reduceIte, Int.reduceEq, Int.reduceLT, Int.reduceLE, Int.reduceNeg, h1, eq_true p0, h2, sp_within, p1]
        · by_cases p1 : i < 0
          · simp (disch := omega) only [eX7_told_0, eX7_told_1, eX7_told_4, eX7_told_7, eX7_told_8, eX7_told_9, eX7_told_10, eX7_told_11, eX7_told_15, eX7_told_18, eX7_told_21, eX7_told_22, eX7_told_23, eX7_told_24, eX7_told_27, eX7_told_30, eX7_told_31, eX7_told_34, eX7_told_35, eX7_told_36, eX7_told_39, eX7_told_40, eX7_told_41, eX7_told_42, eX7_told_46, eX7_told_47, eX7_told_50, eX7_told_53, eX7_told_54, eX7_told_55, eX7_told_56, eX7_told_59, eX7_told_62, eX7_told_63, eX7_told_66, eX7_told_67, eX7_told_68, eX7_told_69, eX7_told_70, eX7_told_71, eX7_told_72, eX7_told_75, eX7_told_76, fx_bd_some, Option.toList_some, Option.toList_none, List.nil_append, List.cons_append, fx_uo, fx_ui, Int.toNat_natCast, ↓reduceIte, Int.reduceEq, Int.reduceLT, Int.reduceLE, Int.reduceNeg, h1, eq_false p0, eq_true p1]
          · by_cases p2 : i < σ 20 0 33
            · have p4 : (0 ≤ w ∧ w ≤ 2) = False := eq_false (by omega)
              simp (disch := omega) only [eX7_told_0, eX7_told_1, eX7_told_4, eX7_told_7, eX7_told_8, eX7_told_9, eX7_told_10, eX7_told_11, eX7_told_15, eX7_told_18, eX7_told_21, eX7_told_22, eX7_told_23, eX7_told_24, eX7_told_27, eX7_told_30, eX7_told_31, eX7_told_34, eX7_told_35, eX7_told_36, eX7_told_39, eX7_told_40, eX7_told_41, eX7_told_42, eX7_told_45, eX7_told_46, eX7_told_47, eX7_told_50, eX7_told_53, eX7_told_54, eX7_told_55, eX7_told_56, eX7_told_59, eX7_told_63, eX7_told_66, eX7_told_67, eX7_told_68, eX7_told_69, eX7_told_70, eX7_told_71, eX7_told_72, eX7_told_75, eX7_told_76, fx_bd_some, Option.toList_some, Option.toList_none, List.nil_append, List.cons_append, fx_uo, fx_ui, Int.toNat_natCast, ↓reduceIte, Int.reduceEq, Int.reduceLT, Int.reduceLE, Int.reduceNeg, h1, eq_false p0, eq_false p1, eq_true p2, sp_within, p4]
            · simp (disch := omega) only [eX7_told_0, eX7_told_1, eX7_told_4, eX7_told_7, eX7_told_8, eX7_told_9, eX7_told_10, eX7_told_11, eX7_told_15, eX7_told_18, eX7_told_21, eX7_told_22, eX7_told_23, eX7_told_24, eX7_told_27, eX7_told_30, eX7_told_31, eX7_told_34, eX7_told_35, eX7_told_36, eX7_told_39, eX7_told_40, eX7_told_41, eX7_told_42, eX7_told_45, eX7_told_46, eX7_told_47, eX7_told_50, eX7_told_54, eX7_told_55, eX7_told_56, eX7_told_59, eX7_told_62, eX7_told_63, eX7_told_66, eX7_told_67, eX7_told_68, eX7_told_69, eX7_told_70, eX7_told_71, eX7_told_72, eX7_told_75, eX7_told_76, fx_bd_some, Option.toList_some, Option.toList_none, List.nil_append, List.cons_append, fx_uo, fx_ui, Int.toNat_natCast, ↓reduceIte, Int.reduceEq, Int.reduceLT, Int.reduceLE, Int.reduceNeg, h1, eq_false p0, eq_false p1, eq_false p2]
