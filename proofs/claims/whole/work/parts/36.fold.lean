theorem ag_about (Rf Cf : Nat → Nat) (nc : Nat) {σ : fx_M} (h : Inv Rf Cf nc σ) (c w : Int) (hc : fx_in c) (hw : fx_in w) : Ag Rf Cf nc 43 88 [.inl c, .inl w] σ := by
  by_cases q : 0 ≤ c ∧ c < nc
  · obtain ⟨g, rfl⟩ : ∃ g : Nat, c = g := ⟨c.toNat, by omega⟩
    have hg : g < nc := by omega
    have hn := h.1.1
    have e1 := h.clY hg
    have e2 := Inv.mcY (Rf := Rf) (Cf := Cf) h.1 hg
    obtain ⟨R, C, br, bc, f, b, so, pr, pc, ph, sh, to, dp, k1, k2, k3⟩ := h.2.1 g hg
    have hB := k1.1
    have hso := k1.2.2.2.1
    obtain ⟨a1, a2, ⟨a3, a4, a5⟩, ⟨a6, a7, a8, a9⟩, a10, a11⟩ := id k2
    have c2 : σ 15 g 5 = br := k2.2.1.2.2.1
    have c3 : σ 15 g 6 = bc := k2.2.1.2.2.2.1
    obtain ⟨σ', x1, x2, x3, x4⟩ := sp_stacks Rf Cf nc (c := g) (by omega) hB k3.1
    have k3' : KM g R C br bc f b so pr pc ph sh to dp σ' := k3.of (fun o i ho => x2 o 0 i (by unfold inB at ho; omega))
    obtain ⟨⟨m1, m2, m3, m4, m5⟩, m6, m7, m8, m9, m10, m11⟩ := id k3'
    have m12 := m7.2.1
    have t1 := sp_thickness Rf Cf nc hB a2.cs
    have t2 := sp_places Rf Cf nc hB a2.cs
    obtain ⟨V, hV⟩ : ∃ V : Int, V = if w = 0 then (R : Int) else if w = 1 then (C : Int) else if w = 2 then (f : Int) else if w = 3 then (br : Int) else if w = 4 then (bc : Int) else if w = 5 then (mxP 144 (fun _ => true) (siz R C pr pc) : Int) else if w = 6 then (so : Int) else if w = 7 then to else if w = 8 then (b : Int) else if w = 9 then (cntP 144 (fun p => decide (0 < siz R C pr pc p)) : Int) else -1 := ⟨_, rfl⟩
    have hs2 : so = 0 ∨ so = 1 := by omega
    refine ⟨V, σ, σ', ?_, ?_, h.stk x2⟩
    · rw [entX6_about, hV]
      by_cases hx : 0 ≤ w ∧ w ≤ 9
      · rcases hs2 with rfl | rfl <;> simp only [ic0, ic1] at a9 <;> rcases (show w = 0 ∨ w = 1 ∨ w = 2 ∨ w = 3 ∨ w = 4 ∨ w = 5 ∨ w = 6 ∨ w = 7 ∨ w = 8 ∨ w = 9 by omega) with rfl | rfl | rfl | rfl | rfl | rfl | rfl | rfl | rfl | rfl
        all_goals simp (disch := omega) only [eX6_about_0, eX6_about_1, eX6_about_2, eX6_about_5, eX6_about_6, eX6_about_7_n, eX6_about_7_s, eX6_about_10, eX6_about_11, eX6_about_12, eX6_about_13, eX6_about_68, eX6_about_69, eX6_about_72, eX6_about_73, eX6_about_74, eX6_about_77, eX6_about_78, eX6_about_79, eX6_about_82, eX6_about_83, eX6_about_84, eX6_about_87, eX6_about_90, eX6_about_91, eX6_about_92, eX6_about_95, eX6_about_98, eX6_about_99, eX6_about_100, eX6_about_103, eX6_about_106, eX6_about_107, eX6_about_108, eX6_about_111, eX6_about_114, eX6_about_115, eX6_about_118, eX6_about_119, eX6_about_120, eX6_about_121, eX6_about_124, eX6_about_125, eX6_about_126, eX6_about_129, eX6_about_130, eX6_about_131, eX6_about_134, eX6_about_137, eX6_about_138, eX6_about_139, fx_bd_some, Option.toList_some, Option.toList_none, List.nil_append, List.cons_append, fx_uo, fx_ui, Int.toNat_natCast, ↓reduceIte, Int.reduceEq, Int.reduceLT, Int.reduceLE, Int.reduceNeg, e1, a3, a4, a6, a7, a8, a9, c2, c3, t1, t2, ic0, ic1]
      · simp (disch := omega) only [eX6_about_0, eX6_about_1, eX6_about_2, eX6_about_5, eX6_about_6, eX6_about_7_n, eX6_about_7_s, eX6_about_10, eX6_about_11, eX6_about_12, eX6_about_13, eX6_about_68, eX6_about_69, eX6_about_72, eX6_about_73, eX6_about_74, eX6_about_77, eX6_about_78, eX6_about_79, eX6_about_82, eX6_about_83, eX6_about_84, eX6_about_87, eX6_about_90, eX6_about_91, eX6_about_92, eX6_about_95, eX6_about_98, eX6_about_99, eX6_about_100, eX6_about_103, eX6_about_106, eX6_about_107, eX6_about_108, eX6_about_111, eX6_about_114, eX6_about_115, eX6_about_118, eX6_about_119, eX6_about_120, eX6_about_121, eX6_about_124, eX6_about_125, eX6_about_126, eX6_about_129, eX6_about_130, eX6_about_131, eX6_about_134, eX6_about_137, eX6_about_138, eX6_about_139, fx_bd_some, Option.toList_some, Option.toList_none, List.nil_append, List.cons_append, fx_uo, fx_ui, Int.toNat_natCast, ↓reduceIte, Int.reduceEq, Int.reduceLT, Int.reduceLE, Int.reduceNeg, e1, eq_false (show ¬ w = 0 by omega), eq_false (show ¬ w = 1 by omega), eq_false (show ¬ w = 2 by omega), eq_false (show ¬ w = 3 by omega), eq_false (show ¬ w = 4 by omega), eq_false (show ¬ w = 5 by omega), eq_false (show ¬ w = 6 by omega), eq_false (show ¬ w = 7 by omega), eq_false (show ¬ w = 8 by omega), eq_false (show ¬ w = 9 by omega)]
    · rw [entX7_about]
      simp (disch := omega) only [eX7_about_0, eX7_about_1, eX7_about_2, eX7_about_5, eX7_about_8, eX7_about_9, eX7_about_10, eX7_about_11, eX7_about_12, eX7_about_15, eX7_about_16, eX7_about_17, eX7_about_18, eX7_about_20, eX7_about_21, eX7_about_25, eX7_about_28, eX7_about_31, eX7_about_32, eX7_about_35, eX7_about_37, eX7_about_38, eX7_about_39, eX7_about_42, eX7_about_43, eX7_about_46, eX7_about_48, eX7_about_49, eX7_about_52, eX7_about_53, eX7_about_54, eX7_about_56, eX7_about_57, eX7_about_60, eX7_about_62, eX7_about_63, eX7_about_66, eX7_about_67, eX7_about_70, eX7_about_71, eX7_about_72, eX7_about_74, eX7_about_77, eX7_about_80, eX7_about_81, eX7_about_136, eX7_about_137, eX7_about_140, eX7_about_141, eX7_about_142, eX7_about_143, eX7_about_144, eX7_about_147, eX7_about_148, eX7_about_149, eX7_about_150, eX7_about_151, eX7_about_154, eX7_about_155, eX7_about_156, eX7_about_157, eX7_about_158, eX7_about_161, eX7_about_162, eX7_about_163, eX7_about_164, eX7_about_165, eX7_about_168, eX7_about_169, eX7_about_170, eX7_about_171, eX7_about_172, eX7_about_173, eX7_about_174, eX7_about_177, eX7_about_178, eX7_about_179, eX7_about_182, eX7_about_183, eX7_about_186, eX7_about_187, eX7_about_188, eX7_about_189, eX7_about_192, eX7_about_193, eX7_about_194, eX7_about_195, eX7_about_196, eX7_about_199, eX7_about_200, eX7_about_201, eX7_about_202, eX7_about_204, eX7_about_205, eX7_about_206, fx_bd_some, Option.toList_some, Option.toList_none, List.nil_append, List.cons_append, fx_uo, fx_ui, Int.toNat_natCast, ↓reduceIte, Int.reduceEq, Int.reduceLT, Int.reduceLE, Int.reduceNeg, e2, x1]
      refine abt_lp Rf Cf nc (siz R C pr pc) (fun p hp => ⟨x3 p hp, by have := siz_le R C pr pc p; omega⟩) _ _ (fun q => q = some (some (.inl V), σ')) ?_ 144 0 0 0 (by omega) rfl rfl (by omega)
      rw [hV]
      by_cases hx : 0 ≤ w ∧ w ≤ 9
      · rcases hs2 with rfl | rfl <;> simp only [ic0, ic1] at m10 <;> rcases (show w = 0 ∨ w = 1 ∨ w = 2 ∨ w = 3 ∨ w = 4 ∨ w = 5 ∨ w = 6 ∨ w = 7 ∨ w = 8 ∨ w = 9 by omega) with rfl | rfl | rfl | rfl | rfl | rfl | rfl | rfl | rfl | rfl
        all_goals simp (disch := omega) only [eX7_about_0, eX7_about_1, eX7_about_2, eX7_about_5, eX7_about_8, eX7_about_9, eX7_about_10, eX7_about_11, eX7_about_12, eX7_about_15, eX7_about_16, eX7_about_17, eX7_about_18, eX7_about_20, eX7_about_21, eX7_about_25, eX7_about_28, eX7_about_31, eX7_about_32, eX7_about_35, eX7_about_37, eX7_about_38, eX7_about_39, eX7_about_42, eX7_about_43, eX7_about_46, eX7_about_48, eX7_about_49, eX7_about_52, eX7_about_53, eX7_about_54, eX7_about_56, eX7_about_57, eX7_about_60, eX7_about_62, eX7_about_63, eX7_about_66, eX7_about_67, eX7_about_70, eX7_about_71, eX7_about_72, eX7_about_74, eX7_about_77, eX7_about_80, eX7_about_81, eX7_about_136, eX7_about_137, eX7_about_140, eX7_about_141, eX7_about_142, eX7_about_143, eX7_about_144, eX7_about_147, eX7_about_148, eX7_about_149, eX7_about_150, eX7_about_151, eX7_about_154, eX7_about_155, eX7_about_156, eX7_about_157, eX7_about_158, eX7_about_161, eX7_about_162, eX7_about_163, eX7_about_164, eX7_about_165, eX7_about_168, eX7_about_169, eX7_about_170, eX7_about_171, eX7_about_172, eX7_about_173, eX7_about_174, eX7_about_177, eX7_about_178, eX7_about_179, eX7_about_182, eX7_about_183, eX7_about_186, eX7_about_187, eX7_about_188, eX7_about_189, eX7_about_192, eX7_about_193, eX7_about_194, eX7_about_195, eX7_about_196, eX7_about_199, eX7_about_200, eX7_about_201, eX7_about_202, eX7_about_204, eX7_about_205, eX7_about_206, fx_bd_some, Option.toList_some, Option.toList_none, List.nil_append, List.cons_append, fx_uo, fx_ui, Int.toNat_natCast, ↓reduceIte, Int.reduceEq, Int.reduceLT, Int.reduceLE, Int.reduceNeg, m1, m2, m3, m4, m6, m9, m10, m12, ic0, ic1]
      · simp (disch := omega) only [eX7_about_0, eX7_about_1, eX7_about_2, eX7_about_5, eX7_about_8, eX7_about_9, eX7_about_10, eX7_about_11, eX7_about_12, eX7_about_15, eX7_about_16, eX7_about_17, eX7_about_18, eX7_about_20, eX7_about_21, eX7_about_25, eX7_about_28, eX7_about_31, eX7_about_32, eX7_about_35, eX7_about_37, eX7_about_38, eX7_about_39, eX7_about_42, eX7_about_43, eX7_about_46, eX7_about_48, eX7_about_49, eX7_about_52, eX7_about_53, eX7_about_54, eX7_about_56, eX7_about_57, eX7_about_60, eX7_about_62, eX7_about_63, eX7_about_66, eX7_about_67, eX7_about_70, eX7_about_71, eX7_about_72, eX7_about_74, eX7_about_77, eX7_about_80, eX7_about_81, eX7_about_136, eX7_about_137, eX7_about_140, eX7_about_141, eX7_about_142, eX7_about_143, eX7_about_144, eX7_about_147, eX7_about_148, eX7_about_149, eX7_about_150, eX7_about_151, eX7_about_154, eX7_about_155, eX7_about_156, eX7_about_157, eX7_about_158, eX7_about_161, eX7_about_162, eX7_about_163, eX7_about_164, eX7_about_165, eX7_about_168, eX7_about_169, eX7_about_170, eX7_about_171, eX7_about_172, eX7_about_173, eX7_about_174, eX7_about_177, eX7_about_178, eX7_about_179, eX7_about_182, eX7_about_183, eX7_about_186, eX7_about_187, eX7_about_188, eX7_about_189, eX7_about_192, eX7_about_193, eX7_about_194, eX7_about_195, eX7_about_196, eX7_about_199, eX7_about_200, eX7_about_201, eX7_about_202, eX7_about_204, eX7_about_205, eX7_about_206, fx_bd_some, Option.toList_some, Option.toList_none, List.nil_append, List.cons_append, fx_uo, fx_ui, Int.toNat_natCast, ↓reduceIte, Int.reduceEq, Int.reduceLT, Int.reduceLE, Int.reduceNeg, eq_false (show ¬ w = 0 by omega), eq_false (show ¬ w = 1 by omega), eq_false (show ¬ w = 2 by omega), eq_false (show ¬ w = 3 by omega), eq_false (show ¬ w = 4 by omega), eq_false (show ¬ w = 5 by omega), eq_false (show ¬ w = 6 by omega), eq_false (show ¬ w = 7 by omega), eq_false (show ¬ w = 8 by omega), eq_false (show ¬ w = 9 by omega)]
  · have e1 := h.clN hc q
    have e2 := Inv.mcN (Rf := Rf) (Cf := Cf) h.1 hc q
    refine Ag.same h (-1) ?_ ?_
    · rw [entX6_about]
      simp (disch := omega) only [eX6_about_0, eX6_about_1, eX6_about_2, eX6_about_5, eX6_about_6, eX6_about_7_n, eX6_about_7_s, eX6_about_10, eX6_about_11, eX6_about_12, eX6_about_13, eX6_about_68, eX6_about_69, eX6_about_72, eX6_about_73, eX6_about_74, eX6_about_77, eX6_about_78, eX6_about_79, eX6_about_82, eX6_about_83, eX6_about_84, eX6_about_87, eX6_about_90, eX6_about_91, eX6_about_92, eX6_about_95, eX6_about_98, eX6_about_99, eX6_about_100, eX6_about_103, eX6_about_106, eX6_about_107, eX6_about_108, eX6_about_111, eX6_about_114, eX6_about_115, eX6_about_118, eX6_about_119, eX6_about_120, eX6_about_121, eX6_about_124, eX6_about_125, eX6_about_126, eX6_about_129, eX6_about_130, eX6_about_131, eX6_about_134, eX6_about_137, eX6_about_138, eX6_about_139, fx_bd_some, Option.toList_some, Option.toList_none, List.nil_append, List.cons_append, fx_uo, fx_ui, Int.toNat_natCast, ↓reduceIte, Int.reduceEq, Int.reduceLT, Int.reduceLE, Int.reduceNeg, e1]
    · rw [entX7_about]
      simp (disch := omega) only [eX7_about_0, eX7_about_1, eX7_about_2, eX7_about_5, eX7_about_8, eX7_about_9, eX7_about_10, eX7_about_11, eX7_about_12, eX7_about_15, eX7_about_16, eX7_about_17, eX7_about_18, eX7_about_20, eX7_about_21, eX7_about_25, eX7_about_28, eX7_about_31, eX7_about_32, eX7_about_35, eX7_about_37, eX7_about_38, eX7_about_39, eX7_about_42, eX7_about_43, eX7_about_46, eX7_about_48, eX7_about_49, eX7_about_52, eX7_about_53, eX7_about_54, eX7_about_56, eX7_about_57, eX7_about_60, eX7_about_62, eX7_about_63, eX7_about_66, eX7_about_67, eX7_about_70, eX7_about_71, eX7_about_72, eX7_about_74, eX7_about_77, eX7_about_80, eX7_about_81, eX7_about_136, eX7_about_137, eX7_about_140, eX7_about_141, eX7_about_142, eX7_about_143, eX7_about_144, eX7_about_147, eX7_about_148, eX7_about_149, eX7_about_150, eX7_about_151, eX7_about_154, eX7_about_155, eX7_about_156, eX7_about_157, eX7_about_158, eX7_about_161, eX7_about_162, eX7_about_163, eX7_about_164, eX7_about_165, eX7_about_168, eX7_about_169, eX7_about_170, eX7_about_171, eX7_about_172, eX7_about_173, eX7_about_174, eX7_about_177, eX7_about_178, eX7_about_179, eX7_about_182, eX7_about_183, eX7_about_186, eX7_about_187, eX7_about_188, eX7_about_189, eX7_about_192, eX7_about_193, eX7_about_194, eX7_about_195, eX7_about_196, eX7_about_199, eX7_about_200, eX7_about_201, eX7_about_202, eX7_about_204, eX7_about_205, eX7_about_206, fx_bd_some, Option.toList_some, Option.toList_none, List.nil_append, List.cons_append, fx_uo, fx_ui, Int.toNat_natCast, ↓reduceIte, Int.reduceEq, Int.reduceLT, Int.reduceLE, Int.reduceNeg, e2]
/-! open -/
theorem ag_open (Rf Cf : Nat → Nat) (nc : Nat) {σ : fx_M} (h : Inv Rf Cf nc σ) (c : Int) (hc : fx_in c) : Ag Rf Cf nc 42 87 [.inl c] σ := by
  by_cases q : 0 ≤ c ∧ c < nc
  · obtain ⟨g, rfl⟩ : ∃ g : Nat, c = g := ⟨c.toNat, by omega⟩
    have hg : g < nc := by omega
    have hn := h.1.1
    obtain ⟨R, C, br, bc, f, b, so, pr, pc, ph, sh, to, dp, k1, k2, k3⟩ := h.2.1 g hg
    obtain ⟨⟨b1, b2⟩, ⟨b3, b4⟩, -⟩ := id k1.1
    obtain ⟨a1, a2, ⟨a3, a4, a5⟩, ⟨a6, a7, a8, a9⟩, a10, a11⟩ := id k2
    have e1 := h.clY hg
    obtain ⟨σ0, hσ0⟩ : ∃ σ0, σ0 = fx_fr (fx_up (fx_up σ 12 g 6 0) 12 g 7 0) 14 g 0 (12 * Rf g) (fun _ => 0) := ⟨_, rfl⟩
    have e3 := sp_takeBoardsOff Rf Cf nc g (by rw [a1.1]; exact b2) (fx_up σ 12 g 6 0)
    rw [← hσ0] at e3
    have hF0 : ∀ o k x, ¬ (o = 12 ∧ k = g ∧ (x = 6 ∨ x = 7)) → ¬ (o = 14 ∧ k = g) → σ0 o k x = σ o k x := fun o k x h1 h2 => by
      rw [hσ0]; unfold fx_fr fx_up
      rw [if_neg (by omega), if_neg (by omega), if_neg (by omega)]
    have z6 : σ0 12 g 6 = 0 := by rw [hσ0]; unfold fx_fr; rw [if_neg (by omega), fx_ui, if_neg (by omega), fx_ui, if_pos rfl]
    have z7 : σ0 12 g 7 = 0 := by rw [hσ0]; unfold fx_fr; rw [if_neg (by omega), fx_ui, if_pos rfl]
    obtain ⟨σ1, q1, q2, q3⟩ := sp_spread Rf Cf nc (g := g) (R := R) (C := C) σ0 b1 (by rw [a1.1]; exact Nat.le_refl _) (by rw [a1.1]; exact b2) b3 b4 (by rw [a1.1, a1.2]; exact Nat.le_refl _)
    have r0 : σ0 12 g 0 = R := by rw [hF0 _ _ _ (by omega) (by omega)]; exact a3
    have r1 : σ0 12 g 1 = C := by rw [hF0 _ _ _ (by omega) (by omega)]; exact a4
    have hF : ∀ o k x, ¬ (k = g ∧ o = 12 ∧ (x = 6 ∨ x = 7)) → ¬ (k = g ∧ 14 ≤ o ∧ o ≤ 19) → σ1 o k x = σ o k x := fun o k x h1 h2 => by
      rw [q2 o k x (by omega), hF0 o k x (by omega) (by omega)]
    have e2 := Inv.mcY (Rf := Rf) (Cf := Cf) (h.1.of (σ' := σ1) (fun o k x ho => hF o k x (by unfold gl at ho; omega) (by unfold gl at ho; omega))) hg
    have s2 : σ1 39 0 g = f := by rw [hF _ _ _ (by omega) (by omega)]; exact k3.2.1
    have e4 := sp_unfold Rf Cf nc g (by omega) σ1
    have hU : ∀ o k x, ¬ (k = 0 ∧ ((34 ≤ o ∧ o ≤ 36 ∧ 144 * g ≤ x ∧ x < 144 * g + 144) ∨ ((o = 37 ∨ o = 38 ∨ o = 39 ∨ o = 42) ∧ x = g))) → m_unf g 0 σ1 o k x = σ1 o k x := fun o k x ho => by
      unfold m_unf
      rw [if_neg (by omega), if_neg (by omega), if_neg (by omega), if_neg (by omega), if_neg (by omega), if_neg (by omega)]
    have hM : KM g R C R C 0 0 so oR oC oH (fun _ _ => false) to dp (m_unf g 0 σ1) := by
      obtain ⟨⟨m1, m2, m3, m4, m5⟩, m6, m7, m8, m9, m10, m11⟩ := id k3
      have t1 : σ1 30 0 g = R := by rw [hF _ _ _ (by omega) (by omega)]; exact m1
      have t2 : σ1 31 0 g = C := by rw [hF _ _ _ (by omega) (by omega)]; exact m2
      refine ⟨⟨by rw [hU _ _ _ (by omega)]; exact t1, by rw [hU _ _ _ (by omega)]; exact t2, ?_, ?_, fun k hk hkc => ?_⟩, ?_, ⟨by omega, ?_, fun j hj => by omega⟩, fun r n => rfl, by rw [hU _ _ _ (by omega), hF _ _ _ (by omega) (by omega)]; exact m9, by rw [hU _ _ _ (by omega), hF _ _ _ (by omega) (by omega)]; exact m10, fun k hk => by rw [hU _ _ _ (by omega), hF _ _ _ (by omega) (by omega)]; exact m11 k hk⟩
      · unfold m_unf
        rw [if_neg (by omega), if_neg (by omega), if_neg (by omega), if_pos (by omega)]; exact t1
      · unfold m_unf
        rw [if_neg (by omega), if_neg (by omega), if_neg (by omega), if_neg (by omega), if_pos (by omega)]; exact t2
      · unfold m_unf oR oC oH
        refine ⟨?_, ?_, ?_⟩
        · rw [if_pos (by omega)]
          congr 1
          omega
        · rw [if_neg (by omega), if_pos (by omega)]
          congr 1
          omega
        · rw [if_neg (by omega), if_neg (by omega), if_pos (by omega)]; rfl
      · unfold m_unf
        rw [if_neg (by omega), if_neg (by omega), if_neg (by omega), if_neg (by omega), if_neg (by omega), if_pos (by omega)]; rfl
      · unfold m_unf
        rw [if_neg (by omega), if_neg (by omega), if_neg (by omega), if_neg (by omega), if_neg (by omega), if_pos (by omega)]; rfl
    refine ⟨f, σ1, m_unf g 0 σ1, ?_, ?_, h.put g hg (fun o k x ho => ?_) (fun o k x h1 h2 h3 h4 => ?_) (fun c o i h1 h2 h3 => ?_) ⟨R, C, R, C, 0, 0, so, oR, oC, oH, fun _ _ => false, to, dp, ⟨BW_open b1 b2 b3 b4, by omega, by omega, k1.2.2.2.1, k1.2.2.2.2⟩, ?_, hM⟩⟩
    · rw [entX6_open]
      simp (disch := omega) only [eX6_open_0, eX6_open_1, eX6_open_2, eX6_open_5, eX6_open_6, eX6_open_7_n, eX6_open_7_s, eX6_open_10, eX6_open_11, eX6_open_12, eX6_open_13, eX6_open_16, eX6_open_17, eX6_open_18, eX6_open_19, eX6_open_22, eX6_open_23, eX6_open_26, eX6_open_27, eX6_open_30, eX6_open_31, eX6_open_34, eX6_open_35, eX6_open_38, eX6_open_41, eX6_open_42, fx_bd_some, Option.toList_some, Option.toList_none, List.nil_append, List.cons_append, fx_uo, fx_ui, Int.toNat_natCast, ↓reduceIte, Int.reduceEq, Int.reduceLT, Int.reduceLE, Int.reduceNeg, e1, a6, e3, r0, r1, q1]
    · rw [entX7_open]
      simp (disch := omega) only [eX7_open_0, eX7_open_1, eX7_open_2, eX7_open_5, eX7_open_8, eX7_open_9, eX7_open_10, eX7_open_11, eX7_open_14, eX7_open_15, eX7_open_16, eX7_open_17, eX7_open_18, eX7_open_19, eX7_open_22, eX7_open_23, fx_bd_some, Option.toList_some, Option.toList_none, List.nil_append, List.cons_append, fx_uo, fx_ui, Int.toNat_natCast, ↓reduceIte, Int.reduceEq, Int.reduceLT, Int.reduceLE, Int.reduceNeg, e2, s2, e4]
    · unfold gl at ho
      rw [hU _ _ _ (by omega), hF _ _ _ (by omega) (by omega)]
    · rw [hU _ _ _ (by omega), hF _ _ _ (by omega) (by omega)]
    · unfold inB at h3
      rw [hU _ _ _ (by omega), hF _ _ _ (by omega) (by omega)]
    · have e : ∀ i, fx_up σ 0 0 0 0 12 g i = σ 12 g i := fun i => by rw [fx_uo (by omega)]
      have w12 : ∀ i, i ≠ 6 → i ≠ 7 → m_unf g 0 σ1 12 g i = σ 12 g i := fun i h1 h2 => by rw [hU _ _ _ (by omega), hF _ _ _ (by omega) (by omega)]
      refine ⟨a1, q3.of (fun o i h1 h2 => hU _ _ _ (by omega)), ⟨by rw [w12 _ (by omega) (by omega)]; exact a3, by rw [w12 _ (by omega) (by omega)]; exact a4, by rw [w12 _ (by omega) (by omega)]; exact a5⟩, ⟨?_, ?_, by rw [w12 _ (by omega) (by omega)]; exact a8, by rw [w12 _ (by omega) (by omega)]; exact a9⟩, fun r n hr hn => ?_, fun k hk hkc => ?_⟩
      · rw [hU _ _ _ (by omega), q2 _ _ _ (by omega)]; exact z6
      · rw [hU _ _ _ (by omega), q2 _ _ _ (by omega)]; exact z7
      · rw [hU _ _ _ (by omega), q2 _ _ _ (by omega), hσ0]
        unfold fx_fr
        have := a1.1
        rw [if_pos (by omega)]; rfl
      · rw [hU _ _ _ (by omega), hF _ _ _ (by omega) (by omega)]; exact a11 k hk hkc
  · have e1 := h.clN hc q
    have e2 := Inv.mcN (Rf := Rf) (Cf := Cf) h.1 hc q
    refine Ag.same h (-1) ?_ ?_
    · rw [entX6_open]
      simp (disch := omega) only [eX6_open_0, eX6_open_1, eX6_open_2, eX6_open_5, eX6_open_6, eX6_open_7_n, eX6_open_7_s, eX6_open_10, eX6_open_11, eX6_open_12, eX6_open_13, eX6_open_16, eX6_open_17, eX6_open_18, eX6_open_19, eX6_open_22, eX6_open_23, eX6_open_26, eX6_open_27, eX6_open_30, eX6_open_31, eX6_open_34, eX6_open_35, eX6_open_38, eX6_open_41, eX6_open_42, fx_bd_some, Option.toList_some, Option.toList_none, List.nil_append, List.cons_append, fx_uo, fx_ui, Int.toNat_natCast, ↓reduceIte, Int.reduceEq, Int.reduceLT, Int.reduceLE, Int.reduceNeg, e1]
    · rw [entX7_open]
      simp (disch := omega) only [eX7_open_0, eX7_open_1, eX7_open_2, eX7_open_5, eX7_open_8, eX7_open_9, eX7_open_10, eX7_open_11, eX7_open_14, eX7_open_15, eX7_open_16, eX7_open_17, eX7_open_18, eX7_open_19, eX7_open_22, eX7_open_23, fx_bd_some, Option.toList_some, Option.toList_none, List.nil_append, List.cons_append, fx_uo, fx_ui, Int.toNat_natCast, ↓reduceIte, Int.reduceEq, Int.reduceLT, Int.reduceLE, Int.reduceNeg, e2]
/-! fold -/
theorem sp_isFoldY (Rf Cf : Nat → Nat) (nc : Nat) (σ : fx_M) (g kd ln how br bc : Nat) (hg : g < 7) (hb : br ≤ 12) (hb2 : bc ≤ 12) (m3 : σ 37 0 g = br) (m4 : σ 38 0 g = bc) (hl : fLn br bc kd ln) (hh : how < 2) : fx_Ca (fx_S Rf Cf nc) 85 [.inr (some (20, 0)), .inl (g : Int), .inl (kd : Int), .inl (ln : Int), .inl (how : Int)] σ = some (some (.inl 0), σ) := by
  have := fLn_lt hl hb hb2
  rw [sp_isFold Rf Cf nc σ g kd ln how hg (by omega) (by omega) (by omega) br bc hb hb2 m3 m4]
  unfold fLn at hl
  rcases hl with ⟨rfl, l1, l2⟩ | ⟨rfl, l1, l2⟩ | ⟨rfl, l1, l2, l3⟩
  · rw [if_neg (by omega), if_neg (by omega), if_pos (by simp; omega)]
  · rw [if_neg (by omega), if_neg (by omega), if_pos (by simp; omega)]
  · rw [if_neg (by omega), if_pos (by omega), if_pos (by omega), if_pos (by omega)]
theorem ag_fold (Rf Cf : Nat → Nat) (nc : Nat) {σ : fx_M} (h : Inv Rf Cf nc σ) (c kd ln how : Int) (hc : fx_in c) (hkd : fx_in kd) (hln : fx_in ln) (hhow : fx_in how) : Ag Rf Cf nc 41 86 [.inl c, .inl kd, .inl ln, .inl how] σ := by
  by_cases q : 0 ≤ c ∧ c < nc
  · obtain ⟨g, rfl⟩ : ∃ g : Nat, c = g := ⟨c.toNat, by omega⟩
    have hg : g < nc := by omega
    have hn := h.1.1
    have e1 := h.clY hg
    have e2 := Inv.mcY (Rf := Rf) (Cf := Cf) h.1 hg
    obtain ⟨R, C, br, bc, f, b, so, pr, pc, ph, sh, to, dp, k1, k2, k3⟩ := h.2.1 g hg
    have hB := k1.1
    obtain ⟨⟨b1, b2⟩, ⟨b3, b4⟩, ⟨b5, b6⟩, ⟨b7, b8⟩, -⟩ := id k1.1
    obtain ⟨a1, a2, ⟨a3, a4, a5⟩, ⟨a6, a7, a8, a9⟩, a10, a11⟩ := id k2
    obtain ⟨⟨m1, m2, m3, m4, m5⟩, m6, m7, m8, m9, m10, m11⟩ := id k3
    have m12 := m7.2.1
    have c2 : σ 15 g 5 = br := k2.2.1.2.2.1
    have c3 : σ 15 g 6 = bc := k2.2.1.2.2.2.1
    have hfl := k1.2.1
    have hbl := k1.2.2.1
    have hso := k1.2.2.2.1
    have l1 := sp_hasLine Rf Cf nc σ g kd ln hkd hln br bc (by omega) (by omega) c2 c3
    have l2 := sp_canSlant Rf Cf nc σ g br bc (by omega) (by omega) c2 c3
    have l3 := sp_isFold Rf Cf nc σ g kd ln how (by omega) hkd hln hhow br bc (by omega) (by omega) m3 m4
    by_cases qh : 0 ≤ how ∧ how ≤ 1
    · by_cases ql : (kd = 0 ∧ 1 ≤ ln ∧ ln < bc) ∨ (kd = 1 ∧ 1 ≤ ln ∧ ln < br) ∨ (kd = 2 ∧ ln = 0)
      · rw [if_pos ql] at l1
        by_cases qs : kd = 2 ∧ ¬ (br = bc ∧ 1 < br)
        · obtain ⟨rfl, qs⟩ := qs
          rw [if_neg qs] at l2
          rw [if_neg (by omega), if_pos rfl, if_pos (by omega), if_neg (by omega)] at l3
          refine Ag.same h (-3) ?_ ?_
          · rw [entX6_fold]
            simp (disch := omega) only [eX6_fold_0, eX6_fold_1, eX6_fold_2, eX6_fold_5, eX6_fold_7, eX6_fold_9_n, eX6_fold_9_s, eX6_fold_12, eX6_fold_14, eX6_fold_17, eX6_fold_19, eX6_fold_20, eX6_fold_23, eX6_fold_25, eX6_fold_28, eX6_fold_29, eX6_fold_30, eX6_fold_33, eX6_fold_36, eX6_fold_37, eX6_fold_38, eX6_fold_39, eX6_fold_40, eX6_fold_43, eX6_fold_45, eX6_fold_48, eX6_fold_51, eX6_fold_54, eX6_fold_56, eX6_fold_59, eX6_fold_62, eX6_fold_64, eX6_fold_67, eX6_fold_69, eX6_fold_70, eX6_fold_72, eX6_fold_75, eX6_fold_78, eX6_fold_80, eX6_fold_81, eX6_fold_83, eX6_fold_86, eX6_fold_87, eX6_fold_88, eX6_fold_91, eX6_fold_93, eX6_fold_95, eX6_fold_97, eX6_fold_100, eX6_fold_102, eX6_fold_103, eX6_fold_105, eX6_fold_108, eX6_fold_111, eX6_fold_113, eX6_fold_115, eX6_fold_118, eX6_fold_120, eX6_fold_121, eX6_fold_124, eX6_fold_125, eX6_fold_126, eX6_fold_129, eX6_fold_131, eX6_fold_132, eX6_fold_134, eX6_fold_137, eX6_fold_138, eX6_fold_139, eX6_fold_141, eX6_fold_144, eX6_fold_146, eX6_fold_147, eX6_fold_150, eX6_fold_151, eX6_fold_152, eX6_fold_155, eX6_fold_157, eX6_fold_160, fx_bd_some, Option.toList_some, Option.toList_none, List.nil_append, List.cons_append, fx_uo, fx_ui, Int.toNat_natCast, ↓reduceIte, Int.reduceEq, Int.reduceLT, Int.reduceLE, Int.reduceNeg, e1, l1, l2]
            repeat (first | rw [if_pos (by omega)] | rw [if_neg (by omega)])
          · rw [entX7_fold]
            simp (disch := omega) only [eX7_fold_0, eX7_fold_1, eX7_fold_2, eX7_fold_5, eX7_fold_8, eX7_fold_9, eX7_fold_10, eX7_fold_11, eX7_fold_12, eX7_fold_13, eX7_fold_14, eX7_fold_16, eX7_fold_19, eX7_fold_21, eX7_fold_23, eX7_fold_26, eX7_fold_28, eX7_fold_30, eX7_fold_33, eX7_fold_34, eX7_fold_35, eX7_fold_37, eX7_fold_40, eX7_fold_42, eX7_fold_43, eX7_fold_44, eX7_fold_47, eX7_fold_48, eX7_fold_49, eX7_fold_52, eX7_fold_54, eX7_fold_55, eX7_fold_56, eX7_fold_57, eX7_fold_58, eX7_fold_59, eX7_fold_61, eX7_fold_64, eX7_fold_66, eX7_fold_68, eX7_fold_70, eX7_fold_73, eX7_fold_75, eX7_fold_76, eX7_fold_77, eX7_fold_80, eX7_fold_81, eX7_fold_82, eX7_fold_85, eX7_fold_87, eX7_fold_89, eX7_fold_92, eX7_fold_93, eX7_fold_96, eX7_fold_97, eX7_fold_98, eX7_fold_99, eX7_fold_100, eX7_fold_101, eX7_fold_102, eX7_fold_104, eX7_fold_105, eX7_fold_106, eX7_fold_107, eX7_fold_110, eX7_fold_111, eX7_fold_114, eX7_fold_115, eX7_fold_116, fx_bd_some, Option.toList_some, Option.toList_none, List.nil_append, List.cons_append, fx_uo, fx_ui, Int.toNat_natCast, ↓reduceIte, Int.reduceEq, Int.reduceLT, Int.reduceLE, Int.reduceNeg, e2, l3]
        · obtain ⟨kd, rfl⟩ : ∃ k : Nat, kd = k := ⟨kd.toNat, by omega⟩
          obtain ⟨ln, rfl⟩ : ∃ k : Nat, ln = k := ⟨ln.toNat, by omega⟩
          obtain ⟨how, rfl⟩ : ∃ k : Nat, how = k := ⟨how.toNat, by omega⟩
          have hl : fLn br bc kd ln := by unfold fLn; omega
          have hh : how < 2 := by omega
          have l3 := sp_isFoldY Rf Cf nc σ g kd ln how br bc (by omega) (by omega) (by omega) m3 m4 hl hh
          have l4 := sp_thicknessAfter Rf Cf nc hB a2.cs kd ln hl
          have hkl := fLn_lt hl (by omega) (by omega)
          have l2' : kd = 2 → br = bc ∧ 1 < br := fun h1 => by omega
          have x1 : ((how : Int) < 0) = False := eq_false (by omega)
          have x2 : ((1 : Int) < how) = False := eq_false (by omega)
          -- the way to the count of folds
          have st6 : ∀ r, fx_E (fx_S Rf Cf nc) 41 57 [some (.inr (some (0, 0))), some (.inl (g : Int)), some (.inl (kd : Int)), some (.inl (ln : Int)), some (.inl (how : Int)), some (.inr (some (12, g))), none] [] σ = r → fx_Ca (fx_S Rf Cf nc) 41 [.inr (some (0, 0)), .inl (g : Int), .inl (kd : Int), .inl (ln : Int), .inl (how : Int)] σ = r := fun r hr => by
            rw [entX6_fold]
            simp (disch := omega) only [eX6_fold_0, eX6_fold_1, eX6_fold_2, eX6_fold_5, eX6_fold_7, eX6_fold_9_n, eX6_fold_9_s, eX6_fold_12, eX6_fold_14, eX6_fold_17, eX6_fold_19, eX6_fold_20, eX6_fold_23, eX6_fold_25, eX6_fold_28, eX6_fold_29, eX6_fold_30, eX6_fold_33, eX6_fold_36, eX6_fold_37, eX6_fold_38, eX6_fold_39, eX6_fold_40, eX6_fold_43, eX6_fold_45, eX6_fold_48, eX6_fold_51, eX6_fold_54, eX6_fold_56, eX6_fold_59, eX6_fold_62, eX6_fold_64, eX6_fold_67, eX6_fold_69, eX6_fold_70, eX6_fold_72, eX6_fold_75, eX6_fold_78, eX6_fold_80, eX6_fold_81, eX6_fold_83, eX6_fold_86, eX6_fold_87, eX6_fold_88, eX6_fold_91, eX6_fold_93, eX6_fold_95, eX6_fold_97, eX6_fold_100, eX6_fold_102, eX6_fold_103, eX6_fold_105, eX6_fold_108, eX6_fold_111, eX6_fold_113, eX6_fold_115, eX6_fold_118, eX6_fold_120, eX6_fold_121, eX6_fold_124, eX6_fold_125, eX6_fold_126, eX6_fold_129, eX6_fold_131, eX6_fold_132, eX6_fold_134, eX6_fold_137, eX6_fold_138, eX6_fold_139, eX6_fold_141, eX6_fold_144, eX6_fold_146, eX6_fold_147, eX6_fold_150, eX6_fold_151, eX6_fold_152, eX6_fold_155, eX6_fold_157, eX6_fold_160, fx_bd_some, Option.toList_some, Option.toList_none, List.nil_append, List.cons_append, fx_uo, fx_ui, Int.toNat_natCast, ↓reduceIte, Int.reduceEq, Int.reduceLT, Int.reduceLE, Int.reduceNeg, e1, l1, l2, x1, x2]
            by_cases hk2 : kd = 2
            · rw [if_pos (by omega), if_pos (l2' hk2)]
              simp (disch := omega) only [eX6_fold_0, eX6_fold_1, eX6_fold_2, eX6_fold_5, eX6_fold_7, eX6_fold_9_n, eX6_fold_9_s, eX6_fold_12, eX6_fold_14, eX6_fold_17, eX6_fold_19, eX6_fold_20, eX6_fold_23, eX6_fold_25, eX6_fold_28, eX6_fold_29, eX6_fold_30, eX6_fold_33, eX6_fold_36, eX6_fold_37, eX6_fold_38, eX6_fold_39, eX6_fold_40, eX6_fold_43, eX6_fold_45, eX6_fold_48, eX6_fold_51, eX6_fold_54, eX6_fold_56, eX6_fold_59, eX6_fold_62, eX6_fold_64, eX6_fold_67, eX6_fold_69, eX6_fold_70, eX6_fold_72, eX6_fold_75, eX6_fold_78, eX6_fold_80, eX6_fold_81, eX6_fold_83, eX6_fold_86, eX6_fold_87, eX6_fold_88, eX6_fold_91, eX6_fold_93, eX6_fold_95, eX6_fold_97, eX6_fold_100, eX6_fold_102, eX6_fold_103, eX6_fold_105, eX6_fold_108, eX6_fold_111, eX6_fold_113, eX6_fold_115, eX6_fold_118, eX6_fold_120, eX6_fold_121, eX6_fold_124, eX6_fold_125, eX6_fold_126, eX6_fold_129, eX6_fold_131, eX6_fold_132, eX6_fold_134, eX6_fold_137, eX6_fold_138, eX6_fold_139, eX6_fold_141, eX6_fold_144, eX6_fold_146, eX6_fold_147, eX6_fold_150, eX6_fold_151, eX6_fold_152, eX6_fold_155, eX6_fold_157, eX6_fold_160, fx_bd_some, Option.toList_some, Option.toList_none, List.nil_append, List.cons_append, fx_uo, fx_ui, Int.toNat_natCast, ↓reduceIte, Int.reduceEq, Int.reduceLT, Int.reduceLE, Int.reduceNeg]
              exact hr
            · rw [if_neg (by omega)]; exact hr
          have st7 : ∀ r, fx_E (fx_S Rf Cf nc) 86 29 [some (.inr (some (20, 0))), some (.inl (g : Int)), some (.inl (kd : Int)), some (.inl (ln : Int)), some (.inl (how : Int)), some (.inl 0), none] [] σ = r → fx_Ca (fx_S Rf Cf nc) 86 [.inr (some (20, 0)), .inl (g : Int), .inl (kd : Int), .inl (ln : Int), .inl (how : Int)] σ = r := fun r hr => by
            rw [entX7_fold]
            simp (disch := omega) only [eX7_fold_0, eX7_fold_1, eX7_fold_2, eX7_fold_5, eX7_fold_8, eX7_fold_9, eX7_fold_10, eX7_fold_11, eX7_fold_12, eX7_fold_13, eX7_fold_14, eX7_fold_16, eX7_fold_19, eX7_fold_21, eX7_fold_23, eX7_fold_26, eX7_fold_28, eX7_fold_30, eX7_fold_33, eX7_fold_34, eX7_fold_35, eX7_fold_37, eX7_fold_40, eX7_fold_42, eX7_fold_43, eX7_fold_44, eX7_fold_47, eX7_fold_48, eX7_fold_49, eX7_fold_52, eX7_fold_54, eX7_fold_55, eX7_fold_56, eX7_fold_57, eX7_fold_58, eX7_fold_59, eX7_fold_61, eX7_fold_64, eX7_fold_66, eX7_fold_68, eX7_fold_70, eX7_fold_73, eX7_fold_75, eX7_fold_76, eX7_fold_77, eX7_fold_80, eX7_fold_81, eX7_fold_82, eX7_fold_85, eX7_fold_87, eX7_fold_89, eX7_fold_92, eX7_fold_93, eX7_fold_96, eX7_fold_97, eX7_fold_98, eX7_fold_99, eX7_fold_100, eX7_fold_101, eX7_fold_102, eX7_fold_104, eX7_fold_105, eX7_fold_106, eX7_fold_107, eX7_fold_110, eX7_fold_111, eX7_fold_114, eX7_fold_115, eX7_fold_116, fx_bd_some, Option.toList_some, Option.toList_none, List.nil_append, List.cons_append, fx_uo, fx_ui, Int.toNat_natCast, ↓reduceIte, Int.reduceEq, Int.reduceLT, Int.reduceLE, Int.reduceNeg, e2, l3]
            exact hr
          by_cases qf : f = 12
          · refine Ag.same h (-2) (st6 _ ?_) (st7 _ ?_)
            · simp (disch := omega) only [eX6_fold_0, eX6_fold_1, eX6_fold_2, eX6_fold_5, eX6_fold_7, eX6_fold_9_n, eX6_fold_9_s, eX6_fold_12, eX6_fold_14, eX6_fold_17, eX6_fold_19, eX6_fold_20, eX6_fold_23, eX6_fold_25, eX6_fold_28, eX6_fold_29, eX6_fold_30, eX6_fold_33, eX6_fold_36, eX6_fold_37, eX6_fold_38, eX6_fold_39, eX6_fold_40, eX6_fold_43, eX6_fold_45, eX6_fold_48, eX6_fold_51, eX6_fold_54, eX6_fold_56, eX6_fold_57, eX6_fold_59, eX6_fold_62, eX6_fold_64, eX6_fold_67, eX6_fold_69, eX6_fold_72, eX6_fold_75, eX6_fold_78, eX6_fold_80, eX6_fold_81, eX6_fold_83, eX6_fold_86, eX6_fold_87, eX6_fold_88, eX6_fold_91, eX6_fold_93, eX6_fold_95, eX6_fold_97, eX6_fold_100, eX6_fold_102, eX6_fold_103, eX6_fold_105, eX6_fold_108, eX6_fold_111, eX6_fold_113, eX6_fold_115, eX6_fold_118, eX6_fold_120, eX6_fold_121, eX6_fold_124, eX6_fold_125, eX6_fold_126, eX6_fold_129, eX6_fold_131, eX6_fold_132, eX6_fold_134, eX6_fold_137, eX6_fold_138, eX6_fold_139, eX6_fold_141, eX6_fold_144, eX6_fold_146, eX6_fold_147, eX6_fold_150, eX6_fold_151, eX6_fold_152, eX6_fold_155, eX6_fold_157, eX6_fold_160, fx_bd_some, Option.toList_some, Option.toList_none, List.nil_append, List.cons_append, fx_uo, fx_ui, Int.toNat_natCast, ↓reduceIte, Int.reduceEq, Int.reduceLT, Int.reduceLE, Int.reduceNeg, a6]
              repeat (first | rw [if_pos (by omega)] | rw [if_neg (by omega)])
            · simp (disch := omega) only [eX7_fold_0, eX7_fold_1, eX7_fold_2, eX7_fold_5, eX7_fold_8, eX7_fold_9, eX7_fold_10, eX7_fold_11, eX7_fold_12, eX7_fold_13, eX7_fold_14, eX7_fold_16, eX7_fold_19, eX7_fold_21, eX7_fold_23, eX7_fold_26, eX7_fold_28, eX7_fold_29, eX7_fold_30, eX7_fold_33, eX7_fold_34, eX7_fold_35, eX7_fold_37, eX7_fold_40, eX7_fold_42, eX7_fold_44, eX7_fold_47, eX7_fold_48, eX7_fold_49, eX7_fold_52, eX7_fold_54, eX7_fold_55, eX7_fold_56, eX7_fold_57, eX7_fold_58, eX7_fold_59, eX7_fold_61, eX7_fold_64, eX7_fold_66, eX7_fold_68, eX7_fold_70, eX7_fold_73, eX7_fold_75, eX7_fold_76, eX7_fold_77, eX7_fold_80, eX7_fold_81, eX7_fold_82, eX7_fold_85, eX7_fold_87, eX7_fold_89, eX7_fold_92, eX7_fold_93, eX7_fold_96, eX7_fold_97, eX7_fold_98, eX7_fold_99, eX7_fold_100, eX7_fold_101, eX7_fold_102, eX7_fold_104, eX7_fold_105, eX7_fold_106, eX7_fold_107, eX7_fold_110, eX7_fold_111, eX7_fold_114, eX7_fold_115, eX7_fold_116, fx_bd_some, Option.toList_some, Option.toList_none, List.nil_append, List.cons_append, fx_uo, fx_ui, Int.toNat_natCast, ↓reduceIte, Int.reduceEq, Int.reduceLT, Int.reduceLE, Int.reduceNeg, m6]
              repeat (first | rw [if_pos (by omega)] | rw [if_neg (by omega)])
          · by_cases qb : 0 < b
            · refine Ag.same h (-4) (st6 _ ?_) (st7 _ ?_)
              · simp (disch := omega) only [eX6_fold_0, eX6_fold_1, eX6_fold_2, eX6_fold_5, eX6_fold_7, eX6_fold_9_n, eX6_fold_9_s, eX6_fold_12, eX6_fold_14, eX6_fold_17, eX6_fold_19, eX6_fold_20, eX6_fold_23, eX6_fold_25, eX6_fold_28, eX6_fold_29, eX6_fold_30, eX6_fold_33, eX6_fold_36, eX6_fold_37, eX6_fold_38, eX6_fold_39, eX6_fold_40, eX6_fold_43, eX6_fold_45, eX6_fold_48, eX6_fold_51, eX6_fold_54, eX6_fold_56, eX6_fold_57, eX6_fold_59, eX6_fold_62, eX6_fold_64, eX6_fold_67, eX6_fold_69, eX6_fold_70, eX6_fold_72, eX6_fold_75, eX6_fold_78, eX6_fold_80, eX6_fold_83, eX6_fold_86, eX6_fold_87, eX6_fold_88, eX6_fold_91, eX6_fold_93, eX6_fold_95, eX6_fold_97, eX6_fold_100, eX6_fold_102, eX6_fold_103, eX6_fold_105, eX6_fold_108, eX6_fold_111, eX6_fold_113, eX6_fold_115, eX6_fold_118, eX6_fold_120, eX6_fold_121, eX6_fold_124, eX6_fold_125, eX6_fold_126, eX6_fold_129, eX6_fold_131, eX6_fold_132, eX6_fold_134, eX6_fold_137, eX6_fold_138, eX6_fold_139, eX6_fold_141, eX6_fold_144, eX6_fold_146, eX6_fold_147, eX6_fold_150, eX6_fold_151, eX6_fold_152, eX6_fold_155, eX6_fold_157, eX6_fold_160, fx_bd_some, Option.toList_some, Option.toList_none, List.nil_append, List.cons_append, fx_uo, fx_ui, Int.toNat_natCast, ↓reduceIte, Int.reduceEq, Int.reduceLT, Int.reduceLE, Int.reduceNeg, a6, a7]
                repeat (first | rw [if_pos (by omega)] | rw [if_neg (by omega)])
              · simp (disch := omega) only [eX7_fold_0, eX7_fold_1, eX7_fold_2, eX7_fold_5, eX7_fold_8, eX7_fold_9, eX7_fold_10, eX7_fold_11, eX7_fold_12, eX7_fold_13, eX7_fold_14, eX7_fold_16, eX7_fold_19, eX7_fold_21, eX7_fold_23, eX7_fold_26, eX7_fold_28, eX7_fold_29, eX7_fold_30, eX7_fold_33, eX7_fold_34, eX7_fold_35, eX7_fold_37, eX7_fold_40, eX7_fold_42, eX7_fold_43, eX7_fold_44, eX7_fold_47, eX7_fold_48, eX7_fold_49, eX7_fold_52, eX7_fold_54, eX7_fold_56, eX7_fold_57, eX7_fold_58, eX7_fold_59, eX7_fold_61, eX7_fold_64, eX7_fold_66, eX7_fold_68, eX7_fold_70, eX7_fold_73, eX7_fold_75, eX7_fold_76, eX7_fold_77, eX7_fold_80, eX7_fold_81, eX7_fold_82, eX7_fold_85, eX7_fold_87, eX7_fold_89, eX7_fold_92, eX7_fold_93, eX7_fold_96, eX7_fold_97, eX7_fold_98, eX7_fold_99, eX7_fold_100, eX7_fold_101, eX7_fold_102, eX7_fold_104, eX7_fold_105, eX7_fold_106, eX7_fold_107, eX7_fold_110, eX7_fold_111, eX7_fold_114, eX7_fold_115, eX7_fold_116, fx_bd_some, Option.toList_some, Option.toList_none, List.nil_append, List.cons_append, fx_uo, fx_ui, Int.toNat_natCast, ↓reduceIte, Int.reduceEq, Int.reduceLT, Int.reduceLE, Int.reduceNeg, m6, m12]
                repeat (first | rw [if_pos (by omega)] | rw [if_neg (by omega)])
            · obtain rfl : b = 0 := by omega
              obtain ⟨T, hT⟩ : ∃ T, T = thk R C kd ln pr pc (12 * R) := ⟨_, rfl⟩
              rw [← hT] at l4
              have hT1000 : T ≤ 1000 := by
                rw [hT]
                apply mxP_le
                intro k _ _
                have c1 : cmeB R C kd ln pr pc true k ≤ 144 := cntP_le _ _
                have c2 : cmeB R C kd ln pr pc false k ≤ 144 := cntP_le _ _
                show cmeB R C kd ln pr pc true k + cmeB R C kd ln pr pc false k ≤ 1000
                omega
              have st6' : ∀ r, fx_E (fx_S Rf Cf nc) 41 93 [some (.inr (some (0, 0))), some (.inl (g : Int)), some (.inl (kd : Int)), some (.inl (ln : Int)), some (.inl (how : Int)), some (.inr (some (12, g))), some (.inl (T : Int))] [] σ = r → fx_Ca (fx_S Rf Cf nc) 41 [.inr (some (0, 0)), .inl (g : Int), .inl (kd : Int), .inl (ln : Int), .inl (how : Int)] σ = r := fun r hr => by
                refine st6 _ ?_
                simp (disch := omega) only [eX6_fold_0, eX6_fold_1, eX6_fold_2, eX6_fold_5, eX6_fold_7, eX6_fold_9_n, eX6_fold_9_s, eX6_fold_12, eX6_fold_14, eX6_fold_17, eX6_fold_19, eX6_fold_20, eX6_fold_23, eX6_fold_25, eX6_fold_28, eX6_fold_29, eX6_fold_30, eX6_fold_33, eX6_fold_36, eX6_fold_37, eX6_fold_38, eX6_fold_39, eX6_fold_40, eX6_fold_43, eX6_fold_45, eX6_fold_48, eX6_fold_51, eX6_fold_54, eX6_fold_56, eX6_fold_57, eX6_fold_59, eX6_fold_62, eX6_fold_64, eX6_fold_67, eX6_fold_69, eX6_fold_70, eX6_fold_72, eX6_fold_75, eX6_fold_78, eX6_fold_80, eX6_fold_81, eX6_fold_83, eX6_fold_86, eX6_fold_87, eX6_fold_88, eX6_fold_91, eX6_fold_95, eX6_fold_97, eX6_fold_100, eX6_fold_102, eX6_fold_103, eX6_fold_105, eX6_fold_108, eX6_fold_111, eX6_fold_113, eX6_fold_115, eX6_fold_118, eX6_fold_120, eX6_fold_121, eX6_fold_124, eX6_fold_125, eX6_fold_126, eX6_fold_129, eX6_fold_131, eX6_fold_132, eX6_fold_134, eX6_fold_137, eX6_fold_138, eX6_fold_139, eX6_fold_141, eX6_fold_144, eX6_fold_146, eX6_fold_147, eX6_fold_150, eX6_fold_151, eX6_fold_152, eX6_fold_155, eX6_fold_157, eX6_fold_160, fx_bd_some, Option.toList_some, Option.toList_none, List.nil_append, List.cons_append, fx_uo, fx_ui, Int.toNat_natCast, ↓reduceIte, Int.reduceEq, Int.reduceLT, Int.reduceLE, Int.reduceNeg, a6, a7, l4]
                repeat (first | rw [if_pos (by omega)] | rw [if_neg (by omega)])
                exact hr
              have st7' : ∀ (τ τ' : fx_M) (r : Option fx_R), I1 nc τ → τ 37 0 g = br → τ 38 0 g = bc → τ 39 0 g = f → τ 42 0 g = ((0 : Nat) : Int) → fx_Ca (fx_S Rf Cf nc) 83 [.inr (some (20, 0)), .inl (g : Int), .inl (kd : Int), .inl (ln : Int), .inl (how : Int)] τ = some (some (.inl (T : Int)), τ') → fx_E (fx_S Rf Cf nc) 86 66 [some (.inr (some (20, 0))), some (.inl (g : Int)), some (.inl (kd : Int)), some (.inl (ln : Int)), some (.inl (how : Int)), some (.inl 0), some (.inl (T : Int))] [] τ' = r → fx_Ca (fx_S Rf Cf nc) 86 [.inr (some (20, 0)), .inl (g : Int), .inl (kd : Int), .inl (ln : Int), .inl (how : Int)] τ = r := fun τ τ' r y0 y1 y2 y3 y4 y5 hr => by
                have e2 := Inv.mcY (Rf := Rf) (Cf := Cf) y0 hg
                have l3 := sp_isFoldY Rf Cf nc τ g kd ln how br bc (by omega) (by omega) (by omega) y1 y2 hl hh
                rw [entX7_fold]
                simp (disch := omega) only [eX7_fold_0, eX7_fold_1, eX7_fold_2, eX7_fold_5, eX7_fold_8, eX7_fold_9, eX7_fold_10, eX7_fold_11, eX7_fold_12, eX7_fold_13, eX7_fold_14, eX7_fold_16, eX7_fold_19, eX7_fold_21, eX7_fold_23, eX7_fold_26, eX7_fold_28, eX7_fold_29, eX7_fold_30, eX7_fold_33, eX7_fold_34, eX7_fold_35, eX7_fold_37, eX7_fold_40, eX7_fold_42, eX7_fold_43, eX7_fold_44, eX7_fold_47, eX7_fold_48, eX7_fold_49, eX7_fold_52, eX7_fold_54, eX7_fold_55, eX7_fold_56, eX7_fold_57, eX7_fold_58, eX7_fold_59, eX7_fold_61, eX7_fold_64, eX7_fold_68, eX7_fold_70, eX7_fold_73, eX7_fold_75, eX7_fold_76, eX7_fold_77, eX7_fold_80, eX7_fold_81, eX7_fold_82, eX7_fold_85, eX7_fold_87, eX7_fold_89, eX7_fold_92, eX7_fold_93, eX7_fold_96, eX7_fold_97, eX7_fold_98, eX7_fold_99, eX7_fold_100, eX7_fold_101, eX7_fold_102, eX7_fold_104, eX7_fold_105, eX7_fold_106, eX7_fold_107, eX7_fold_110, eX7_fold_111, eX7_fold_114, eX7_fold_115, eX7_fold_116, fx_bd_some, Option.toList_some, Option.toList_none, List.nil_append, List.cons_append, fx_uo, fx_ui, Int.toNat_natCast, ↓reduceIte, Int.reduceEq, Int.reduceLT, Int.reduceLE, Int.reduceNeg, e2, l3, y3, y4, y5]
                repeat (first | rw [if_pos (by omega)] | rw [if_neg (by omega)])
                exact hr
              obtain ⟨σ', p1, p2, p3⟩ := sp_tryFold Rf Cf nc (c := g) (by omega) hB k3.1 kd ln how hkl.1 hkl.2 hh
              rw [← hT] at p1
              have hfr : Inv Rf Cf nc σ' := h.fr (fun o k x ho => p2 o k x (by unfold gl at ho; omega)) (fun o k x h1 h2 _ => p2 o k x (by omega)) (fun c o i _ h3 => p2 o 0 i (by unfold inB at h3; omega))
              by_cases qT : 24 < T
              · refine ⟨-5, σ, σ', st6' _ ?_, st7' σ σ' _ h.1 m3 m4 m6 m12 p1 ?_, hfr⟩
                · simp (disch := omega) only [eX6_fold_0, eX6_fold_1, eX6_fold_2, eX6_fold_5, eX6_fold_7, eX6_fold_9_n, eX6_fold_9_s, eX6_fold_12, eX6_fold_14, eX6_fold_17, eX6_fold_19, eX6_fold_20, eX6_fold_23, eX6_fold_25, eX6_fold_28, eX6_fold_29, eX6_fold_30, eX6_fold_33, eX6_fold_36, eX6_fold_37, eX6_fold_38, eX6_fold_39, eX6_fold_40, eX6_fold_43, eX6_fold_45, eX6_fold_48, eX6_fold_51, eX6_fold_54, eX6_fold_56, eX6_fold_57, eX6_fold_59, eX6_fold_62, eX6_fold_64, eX6_fold_67, eX6_fold_69, eX6_fold_70, eX6_fold_72, eX6_fold_75, eX6_fold_78, eX6_fold_80, eX6_fold_81, eX6_fold_83, eX6_fold_86, eX6_fold_87, eX6_fold_88, eX6_fold_91, eX6_fold_93, eX6_fold_95, eX6_fold_97, eX6_fold_100, eX6_fold_102, eX6_fold_105, eX6_fold_108, eX6_fold_111, eX6_fold_113, eX6_fold_115, eX6_fold_118, eX6_fold_120, eX6_fold_121, eX6_fold_124, eX6_fold_125, eX6_fold_126, eX6_fold_129, eX6_fold_131, eX6_fold_132, eX6_fold_134, eX6_fold_137, eX6_fold_138, eX6_fold_139, eX6_fold_141, eX6_fold_144, eX6_fold_146, eX6_fold_147, eX6_fold_150, eX6_fold_151, eX6_fold_152, eX6_fold_155, eX6_fold_157, eX6_fold_160, fx_bd_some, Option.toList_some, Option.toList_none, List.nil_append, List.cons_append, fx_uo, fx_ui, Int.toNat_natCast, ↓reduceIte, Int.reduceEq, Int.reduceLT, Int.reduceLE, Int.reduceNeg]
                  repeat (first | rw [if_pos (by omega)] | rw [if_neg (by omega)])
                · simp (disch := omega) only [eX7_fold_0, eX7_fold_1, eX7_fold_2, eX7_fold_5, eX7_fold_8, eX7_fold_9, eX7_fold_10, eX7_fold_11, eX7_fold_12, eX7_fold_13, eX7_fold_14, eX7_fold_16, eX7_fold_19, eX7_fold_21, eX7_fold_23, eX7_fold_26, eX7_fold_28, eX7_fold_29, eX7_fold_30, eX7_fold_33, eX7_fold_34, eX7_fold_35, eX7_fold_37, eX7_fold_40, eX7_fold_42, eX7_fold_43, eX7_fold_44, eX7_fold_47, eX7_fold_48, eX7_fold_49, eX7_fold_52, eX7_fold_54, eX7_fold_55, eX7_fold_56, eX7_fold_57, eX7_fold_58, eX7_fold_59, eX7_fold_61, eX7_fold_64, eX7_fold_66, eX7_fold_68, eX7_fold_70, eX7_fold_73, eX7_fold_75, eX7_fold_77, eX7_fold_80, eX7_fold_81, eX7_fold_82, eX7_fold_85, eX7_fold_87, eX7_fold_89, eX7_fold_92, eX7_fold_93, eX7_fold_96, eX7_fold_97, eX7_fold_98, eX7_fold_99, eX7_fold_100, eX7_fold_101, eX7_fold_102, eX7_fold_104, eX7_fold_105, eX7_fold_106, eX7_fold_107, eX7_fold_110, eX7_fold_111, eX7_fold_114, eX7_fold_115, eX7_fold_116, fx_bd_some, Option.toList_some, Option.toList_none, List.nil_append, List.cons_append, fx_uo, fx_ui, Int.toNat_natCast, ↓reduceIte, Int.reduceEq, Int.reduceLT, Int.reduceLE, Int.reduceNeg]
                  repeat (first | rw [if_pos (by omega)] | rw [if_neg (by omega)])
              · by_cases qS : so = 1 ∧ 6 < T
                · obtain ⟨rfl, qS⟩ := qS
                  sorry
                · sorry
      · rw [if_neg ql] at l1
        refine Ag.same h (-1) ?_ ?_
        · rw [entX6_fold]
          simp (disch := omega) only [eX6_fold_0, eX6_fold_1, eX6_fold_2, eX6_fold_5, eX6_fold_7, eX6_fold_9_n, eX6_fold_9_s, eX6_fold_12, eX6_fold_14, eX6_fold_17, eX6_fold_19, eX6_fold_20, eX6_fold_23, eX6_fold_25, eX6_fold_28, eX6_fold_29, eX6_fold_30, eX6_fold_33, eX6_fold_36, eX6_fold_37, eX6_fold_39, eX6_fold_40, eX6_fold_43, eX6_fold_45, eX6_fold_48, eX6_fold_51, eX6_fold_54, eX6_fold_56, eX6_fold_57, eX6_fold_59, eX6_fold_62, eX6_fold_64, eX6_fold_67, eX6_fold_69, eX6_fold_70, eX6_fold_72, eX6_fold_75, eX6_fold_78, eX6_fold_80, eX6_fold_81, eX6_fold_83, eX6_fold_86, eX6_fold_87, eX6_fold_88, eX6_fold_91, eX6_fold_93, eX6_fold_95, eX6_fold_97, eX6_fold_100, eX6_fold_102, eX6_fold_103, eX6_fold_105, eX6_fold_108, eX6_fold_111, eX6_fold_113, eX6_fold_115, eX6_fold_118, eX6_fold_120, eX6_fold_121, eX6_fold_124, eX6_fold_125, eX6_fold_126, eX6_fold_129, eX6_fold_131, eX6_fold_132, eX6_fold_134, eX6_fold_137, eX6_fold_138, eX6_fold_139, eX6_fold_141, eX6_fold_144, eX6_fold_146, eX6_fold_147, eX6_fold_150, eX6_fold_151, eX6_fold_152, eX6_fold_155, eX6_fold_157, eX6_fold_160, fx_bd_some, Option.toList_some, Option.toList_none, List.nil_append, List.cons_append, fx_uo, fx_ui, Int.toNat_natCast, ↓reduceIte, Int.reduceEq, Int.reduceLT, Int.reduceLE, Int.reduceNeg, e1, l1]
          repeat (first | rw [if_pos (by omega)] | rw [if_neg (by omega)])
        · have l4 : fx_Ca (fx_S Rf Cf nc) 85 [.inr (some (20, 0)), .inl (g : Int), .inl kd, .inl ln, .inl how] σ = some (some (.inl (-1)), σ) := by
            rw [l3]
            congr 3
            split
            · rfl
            · split
              · rw [if_neg (by omega)]
              · rw [if_neg]
                split <;> omega
          rw [entX7_fold]
          simp (disch := omega) only [eX7_fold_0, eX7_fold_1, eX7_fold_2, eX7_fold_5, eX7_fold_8, eX7_fold_9, eX7_fold_10, eX7_fold_11, eX7_fold_12, eX7_fold_13, eX7_fold_14, eX7_fold_16, eX7_fold_19, eX7_fold_21, eX7_fold_23, eX7_fold_26, eX7_fold_28, eX7_fold_30, eX7_fold_33, eX7_fold_34, eX7_fold_35, eX7_fold_37, eX7_fold_40, eX7_fold_42, eX7_fold_43, eX7_fold_44, eX7_fold_47, eX7_fold_48, eX7_fold_49, eX7_fold_52, eX7_fold_54, eX7_fold_55, eX7_fold_56, eX7_fold_57, eX7_fold_58, eX7_fold_59, eX7_fold_61, eX7_fold_64, eX7_fold_66, eX7_fold_68, eX7_fold_70, eX7_fold_73, eX7_fold_75, eX7_fold_76, eX7_fold_77, eX7_fold_80, eX7_fold_81, eX7_fold_82, eX7_fold_85, eX7_fold_87, eX7_fold_89, eX7_fold_92, eX7_fold_93, eX7_fold_96, eX7_fold_97, eX7_fold_98, eX7_fold_99, eX7_fold_100, eX7_fold_101, eX7_fold_102, eX7_fold_104, eX7_fold_105, eX7_fold_106, eX7_fold_107, eX7_fold_110, eX7_fold_111, eX7_fold_114, eX7_fold_115, eX7_fold_116, fx_bd_some, Option.toList_some, Option.toList_none, List.nil_append, List.cons_append, fx_uo, fx_ui, Int.toNat_natCast, ↓reduceIte, Int.reduceEq, Int.reduceLT, Int.reduceLE, Int.reduceNeg, e2, l4]
    · rw [if_pos (by omega)] at l3
      refine Ag.same h (-1) ?_ ?_
      · rw [entX6_fold]
        simp (disch := omega) only [eX6_fold_0, eX6_fold_1, eX6_fold_2, eX6_fold_5, eX6_fold_7, eX6_fold_9_n, eX6_fold_9_s, eX6_fold_12, eX6_fold_14, eX6_fold_17, eX6_fold_19, eX6_fold_20, eX6_fold_25, eX6_fold_28, eX6_fold_29, eX6_fold_30, eX6_fold_33, eX6_fold_36, eX6_fold_37, eX6_fold_38, eX6_fold_39, eX6_fold_40, eX6_fold_43, eX6_fold_45, eX6_fold_48, eX6_fold_51, eX6_fold_54, eX6_fold_56, eX6_fold_57, eX6_fold_59, eX6_fold_62, eX6_fold_64, eX6_fold_67, eX6_fold_69, eX6_fold_70, eX6_fold_72, eX6_fold_75, eX6_fold_78, eX6_fold_80, eX6_fold_81, eX6_fold_83, eX6_fold_86, eX6_fold_87, eX6_fold_88, eX6_fold_91, eX6_fold_93, eX6_fold_95, eX6_fold_97, eX6_fold_100, eX6_fold_102, eX6_fold_103, eX6_fold_105, eX6_fold_108, eX6_fold_111, eX6_fold_113, eX6_fold_115, eX6_fold_118, eX6_fold_120, eX6_fold_121, eX6_fold_124, eX6_fold_125, eX6_fold_126, eX6_fold_129, eX6_fold_131, eX6_fold_132, eX6_fold_134, eX6_fold_137, eX6_fold_138, eX6_fold_139, eX6_fold_141, eX6_fold_144, eX6_fold_146, eX6_fold_147, eX6_fold_150, eX6_fold_151, eX6_fold_152, eX6_fold_155, eX6_fold_157, eX6_fold_160, fx_bd_some, Option.toList_some, Option.toList_none, List.nil_append, List.cons_append, fx_uo, fx_ui, Int.toNat_natCast, ↓reduceIte, Int.reduceEq, Int.reduceLT, Int.reduceLE, Int.reduceNeg, e1]
        by_cases q2 : how < 0
        · repeat (first | rw [if_pos (by omega)] | rw [if_neg (by omega)])
        · repeat (first | rw [if_pos (by omega)] | rw [if_neg (by omega)])
      · rw [entX7_fold]
        simp (disch := omega) only [eX7_fold_0, eX7_fold_1, eX7_fold_2, eX7_fold_5, eX7_fold_8, eX7_fold_9, eX7_fold_10, eX7_fold_11, eX7_fold_12, eX7_fold_13, eX7_fold_14, eX7_fold_16, eX7_fold_19, eX7_fold_21, eX7_fold_23, eX7_fold_26, eX7_fold_28, eX7_fold_30, eX7_fold_33, eX7_fold_34, eX7_fold_35, eX7_fold_37, eX7_fold_40, eX7_fold_42, eX7_fold_43, eX7_fold_44, eX7_fold_47, eX7_fold_48, eX7_fold_49, eX7_fold_52, eX7_fold_54, eX7_fold_55, eX7_fold_56, eX7_fold_57, eX7_fold_58, eX7_fold_59, eX7_fold_61, eX7_fold_64, eX7_fold_66, eX7_fold_68, eX7_fold_70, eX7_fold_73, eX7_fold_75, eX7_fold_76, eX7_fold_77, eX7_fold_80, eX7_fold_81, eX7_fold_82, eX7_fold_85, eX7_fold_87, eX7_fold_89, eX7_fold_92, eX7_fold_93, eX7_fold_96, eX7_fold_97, eX7_fold_98, eX7_fold_99, eX7_fold_100, eX7_fold_101, eX7_fold_102, eX7_fold_104, eX7_fold_105, eX7_fold_106, eX7_fold_107, eX7_fold_110, eX7_fold_111, eX7_fold_114, eX7_fold_115, eX7_fold_116, fx_bd_some, Option.toList_some, Option.toList_none, List.nil_append, List.cons_append, fx_uo, fx_ui, Int.toNat_natCast, ↓reduceIte, Int.reduceEq, Int.reduceLT, Int.reduceLE, Int.reduceNeg, e2, l3]
  · have e1 := h.clN hc q
    have e2 := Inv.mcN (Rf := Rf) (Cf := Cf) h.1 hc q
    refine Ag.same h (-1) ?_ ?_
    · rw [entX6_fold]
      simp (disch := omega) only [eX6_fold_0, eX6_fold_1, eX6_fold_2, eX6_fold_5, eX6_fold_7, eX6_fold_9_n, eX6_fold_9_s, eX6_fold_12, eX6_fold_14, eX6_fold_17, eX6_fold_19, eX6_fold_20, eX6_fold_23, eX6_fold_25, eX6_fold_28, eX6_fold_29, eX6_fold_30, eX6_fold_33, eX6_fold_36, eX6_fold_37, eX6_fold_38, eX6_fold_39, eX6_fold_40, eX6_fold_43, eX6_fold_45, eX6_fold_48, eX6_fold_51, eX6_fold_54, eX6_fold_56, eX6_fold_57, eX6_fold_59, eX6_fold_62, eX6_fold_64, eX6_fold_67, eX6_fold_69, eX6_fold_70, eX6_fold_72, eX6_fold_75, eX6_fold_78, eX6_fold_80, eX6_fold_81, eX6_fold_83, eX6_fold_86, eX6_fold_87, eX6_fold_88, eX6_fold_91, eX6_fold_93, eX6_fold_95, eX6_fold_97, eX6_fold_100, eX6_fold_102, eX6_fold_103, eX6_fold_105, eX6_fold_108, eX6_fold_111, eX6_fold_113, eX6_fold_115, eX6_fold_118, eX6_fold_120, eX6_fold_121, eX6_fold_124, eX6_fold_125, eX6_fold_126, eX6_fold_129, eX6_fold_131, eX6_fold_132, eX6_fold_134, eX6_fold_137, eX6_fold_138, eX6_fold_139, eX6_fold_141, eX6_fold_144, eX6_fold_146, eX6_fold_147, eX6_fold_150, eX6_fold_151, eX6_fold_152, eX6_fold_155, eX6_fold_157, eX6_fold_160, fx_bd_some, Option.toList_some, Option.toList_none, List.nil_append, List.cons_append, fx_uo, fx_ui, Int.toNat_natCast, ↓reduceIte, Int.reduceEq, Int.reduceLT, Int.reduceLE, Int.reduceNeg, e1]
    · rw [entX7_fold]
      simp (disch := omega) only [eX7_fold_0, eX7_fold_1, eX7_fold_2, eX7_fold_5, eX7_fold_8, eX7_fold_9, eX7_fold_10, eX7_fold_11, eX7_fold_12, eX7_fold_13, eX7_fold_14, eX7_fold_16, eX7_fold_19, eX7_fold_21, eX7_fold_23, eX7_fold_26, eX7_fold_28, eX7_fold_29, eX7_fold_30, eX7_fold_33, eX7_fold_34, eX7_fold_35, eX7_fold_37, eX7_fold_40, eX7_fold_42, eX7_fold_43, eX7_fold_44, eX7_fold_47, eX7_fold_48, eX7_fold_49, eX7_fold_52, eX7_fold_54, eX7_fold_55, eX7_fold_56, eX7_fold_57, eX7_fold_58, eX7_fold_59, eX7_fold_61, eX7_fold_64, eX7_fold_66, eX7_fold_68, eX7_fold_70, eX7_fold_73, eX7_fold_75, eX7_fold_76, eX7_fold_77, eX7_fold_80, eX7_fold_81, eX7_fold_82, eX7_fold_85, eX7_fold_87, eX7_fold_89, eX7_fold_92, eX7_fold_93, eX7_fold_96, eX7_fold_97, eX7_fold_98, eX7_fold_99, eX7_fold_100, eX7_fold_101, eX7_fold_102, eX7_fold_104, eX7_fold_105, eX7_fold_106, eX7_fold_107, eX7_fold_110, eX7_fold_111, eX7_fold_114, eX7_fold_115, eX7_fold_116, fx_bd_some, Option.toList_some, Option.toList_none, List.nil_append, List.cons_append, fx_uo, fx_ui, Int.toNat_natCast, ↓reduceIte, Int.reduceEq, Int.reduceLT, Int.reduceLE, Int.reduceNeg, e2]
