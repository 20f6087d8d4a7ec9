/-! the seep: its beginning -/
def SH (g br bc : Nat) (sh : Nat → Nat → Bool) (σ : fx_M) : Prop := ∀ r n, r < br → n < bc → σ 14 g (12 * r + n) = if sh r n then 1 else 0
def BI (R C br bc : Nat) (pr pc ph : Nat → Nat) (sh : Nat → Nat → Bool) (σ0 : fx_M) (p h : Nat) (σ : fx_M) : Prop := (∀ o k x, ¬ (k = 0 ∧ (o = 4 ∨ o = 5)) → σ o k x = σ0 o k x) ∧ (∀ r n, r < br → n < bc → 12 * r + n < p → σ 4 0 (12 * r + n) = stF R C pr pc (12 * r + n)) ∧ ∀ j, j < 144 → isC R C j → (12 * pr j + pc j < p ∨ (12 * pr j + pc j = p ∧ ph j < h)) → σ 5 0 (sl R C pr pc ph j) = if srcC R C br bc pr pc ph sh j = true then 1 else 1000000
theorem CS.fr {Rf : Nat → Nat} {g R C br bc : Nat} {pr pc : Nat → Nat} {σ σ' : fx_M} (h : CS Rf g R C br bc pr pc σ) (hs : ∀ o k x, ¬ (k = 0 ∧ (o = 4 ∨ o = 5)) → σ' o k x = σ o k x) : CS Rf g R C br bc pr pc σ' := h.of (hs _ _ _ (by omega)) (hs _ _ _ (by omega)) (fun p hp => hs _ _ _ (by omega))
theorem bg_h (Rf Cf : Nat → Nat) (nc : Nat) {g R C br bc : Nat} {pr pc ph : Nat → Nat} {sh : Nat → Nat → Bool} (hB : BW R C br bc pr pc ph) (σ0 : fx_M) (hC : CS Rf g R C br bc pr pc σ0) (hH : SH g br bc sh σ0) (r n : Nat) (hr : r < br) (hn : n < bc) :
    ∀ (d h : Nat) (σ : fx_M) (u : Option fx_V), h + d = siz R C pr pc (12 * r + n) → σ 4 0 (12 * r + n) = stF R C pr pc (12 * r + n) → BI R C br bc pr pc ph sh σ0 (12 * r + n) h σ → ∃ (σ' : fx_M) (u6 u7 u8 u9 u10 : Option fx_V), fx_E (fx_S Rf Cf nc) 33 67 [some (.inr (some (3, 0))), some (.inr (some (15, g))), some (.inr (some (14, g))), some (.inl (stF R C pr pc (12 * r + n) : Int)), some (.inl (r : Int)), some (.inl (n : Int)), some (.inl ((12 * r + n : Nat) : Int)), some (.inl (siz R C pr pc (12 * r + n) : Int)), some (.inl (if bare R C br bc pr pc r n then 1 else 0)), some (.inl (h : Int)), u] [] σ = fx_E (fx_S Rf Cf nc) 33 17 [some (.inr (some (3, 0))), some (.inr (some (15, g))), some (.inr (some (14, g))), some (.inl (stF R C pr pc (12 * r + n + 1) : Int)), some (.inl (r : Int)), some (.inl ((n + 1 : Nat) : Int)), u6, u7, u8, u9, u10] [] σ' ∧ BI R C br bc pr pc ph sh σ0 (12 * r + n + 1) 0 σ' := by
  obtain ⟨⟨b1, b2⟩, ⟨b3, b4⟩, ⟨b5, b6⟩, ⟨b7, b8⟩, b9, b10, b11⟩ := id hB
  have g4 := b10 (12 * r + n)
  intro d
  induction d with
  | zero =>
    intro h σ u hh h4 hI
    obtain rfl : h = siz R C pr pc (12 * r + n) := by omega
    rw [eX3_begin_67]
    simp (disch := omega) only [eX3_begin_0, eX3_begin_1, eX3_begin_2, eX3_begin_3, eX3_begin_7, eX3_begin_8, eX3_begin_11, eX3_begin_14, eX3_begin_15, eX3_begin_19, eX3_begin_20, eX3_begin_23, eX3_begin_26, eX3_begin_28, eX3_begin_30, eX3_begin_31, eX3_begin_33, eX3_begin_34, eX3_begin_36, eX3_begin_37, eX3_begin_39, eX3_begin_41, eX3_begin_44, eX3_begin_46, eX3_begin_47, eX3_begin_49, eX3_begin_51, eX3_begin_54, eX3_begin_56, eX3_begin_57, eX3_begin_60, eX3_begin_62, eX3_begin_63, eX3_begin_64, eX3_begin_65, eX3_begin_69, eX3_begin_71, eX3_begin_74, eX3_begin_76, eX3_begin_79, eX3_begin_81, eX3_begin_84, eX3_begin_86, eX3_begin_88, eX3_begin_89, eX3_begin_90, eX3_begin_93, eX3_begin_94, eX3_begin_97, eX3_begin_98, eX3_begin_100, eX3_begin_101, eX3_begin_104, eX3_begin_105, eX3_begin_107, eX3_begin_108, eX3_begin_110, eX3_begin_113, eX3_begin_114, eX3_begin_116, eX3_begin_117, eX3_begin_120, eX3_begin_121, eX3_begin_124, eX3_begin_126, eX3_begin_127, eX3_begin_130, eX3_begin_133, eX3_begin_134, eX3_begin_136, eX3_begin_137, eX3_begin_138, eX3_begin_141, eX3_begin_144, eX3_begin_147, eX3_begin_150, fx_bd_some, Option.toList_some, Option.toList_none, List.nil_append, List.cons_append, fx_uo, fx_ui, Int.toNat_natCast, ↓reduceIte, Int.reduceEq, Int.reduceLT, Int.reduceLE, Int.reduceNeg]
    rw [if_neg (by omega), show (n : Int) + 1 = ((n + 1 : Nat) : Int) by omega, show (stF R C pr pc (12 * r + n) : Int) + (siz R C pr pc (12 * r + n) : Int) = (stF R C pr pc (12 * r + n + 1) : Int) by rw [stF_succ]; omega]
    refine ⟨σ, _, _, _, _, _, rfl, hI.1, fun r' n' h1 h2 h3 => ?_, fun j hj hjc hp => hI.2.2 j hj hjc ?_⟩
    · by_cases q : 12 * r' + n' = 12 * r + n
      · rw [q]; exact h4
      · exact hI.2.1 r' n' h1 h2 (by omega)
    · have := (b9 j hj hjc).2.2
      rcases hp with hp | hp
      · by_cases q : 12 * pr j + pc j = 12 * r + n
        · right; rw [q] at this; exact ⟨q, this⟩
        · left; omega
      · omega
  | succ d ih =>
    intro h σ u hh h4 hI
    have hlt := slot_lt (R := R) (C := C) (pr := pr) (pc := pc) (p := 12 * r + n) (h := h) (by omega)
    have i1 : ((stF R C pr pc (12 * r + n) : Int) + (h : Int)).toNat = stF R C pr pc (12 * r + n) + h := by omega
    have hs := hH r n hr hn
    have hs2 : σ 14 g (12 * r + n) = if sh r n then 1 else 0 := by rw [hI.1 _ _ _ (by omega)]; exact hs
    have a2 := hC.1
    have hsz : szA R C br bc pr pc r n = siz R C pr pc (12 * r + n) := by unfold szA; rw [if_pos (by omega)]; simp
    obtain ⟨j, hj⟩ := at_ex hB (r := r) (n := n) (h := h) (by omega) (by rw [hsz]; omega)
    obtain ⟨hj1, hjc, hjr, hjn, hjh⟩ := id hj
    have hsl : sl R C pr pc ph j = stF R C pr pc (12 * r + n) + h := by
      unfold sl
      rw [show 12 * pr j + pc j = 12 * r + n by omega, show ph j = h by omega]
    have fin : ∀ (v : Int) (u : Option fx_V), v = (if srcC R C br bc pr pc ph sh j = true then 1 else 1000000) → ∃ (σ' : fx_M) (u6 u7 u8 u9 u10 : Option fx_V), fx_E (fx_S Rf Cf nc) 33 67 [some (.inr (some (3, 0))), some (.inr (some (15, g))), some (.inr (some (14, g))), some (.inl (stF R C pr pc (12 * r + n) : Int)), some (.inl (r : Int)), some (.inl (n : Int)), some (.inl ((12 * r + n : Nat) : Int)), some (.inl (siz R C pr pc (12 * r + n) : Int)), some (.inl (if bare R C br bc pr pc r n then 1 else 0)), some (.inl ((h : Int) + 1)), u] [] (fx_up σ 5 0 (stF R C pr pc (12 * r + n) + h) v) = fx_E (fx_S Rf Cf nc) 33 17 [some (.inr (some (3, 0))), some (.inr (some (15, g))), some (.inr (some (14, g))), some (.inl (stF R C pr pc (12 * r + n + 1) : Int)), some (.inl (r : Int)), some (.inl ((n + 1 : Nat) : Int)), u6, u7, u8, u9, u10] [] σ' ∧ BI R C br bc pr pc ph sh σ0 (12 * r + n + 1) 0 σ' := by
      intro v u hv
      rw [show (h : Int) + 1 = ((h + 1 : Nat) : Int) by omega]
      refine ih (h + 1) _ u (by omega) (by rw [fx_uo (by omega)]; exact h4) ⟨fun o k x ho => ?_, fun r' n' h1 h2 h3 => ?_, fun j' hj' hjc' hp => ?_⟩
      · unfold fx_up
        rw [if_neg (by omega)]
        exact hI.1 o k x ho
      · rw [fx_uo (by omega)]; exact hI.2.1 r' n' h1 h2 h3
      · rw [fx_ui]
        by_cases q : j' = j
        · subst q
          rw [if_pos hsl, hv]
        · rw [if_neg (fun q2 => q (sl_inj hB hj' hjc' hj1 hjc (by rw [q2, hsl])))]
          refine hI.2.2 j' hj' hjc' ?_
          rcases hp with hp | ⟨hp1, hp2⟩
          · exact Or.inl hp
          · right
            refine ⟨hp1, ?_⟩
            have : ph j' ≠ h := fun q3 => q (b11 j' j hj' hj1 hjc' hjc (by have := b9 j' hj' hjc'; omega) (by have := b9 j' hj' hjc'; omega) (by omega))
            omega
    have src : srcC R C br bc pr pc ph sh j = (!sh r n && (decide (h = 0 ∨ h + 1 = siz R C pr pc (12 * r + n)) || bare R C br bc pr pc r n)) := by
      unfold srcC
      rw [show pr j = r by omega, show pc j = n by omega, show ph j = h by omega]
    rw [src] at fin
    rw [eX3_begin_67]
    cases hb : bare R C br bc pr pc r n <;> cases hsh : sh r n <;> rw [hsh] at hs2 <;> rw [hb, hsh] at fin
    all_goals
      simp (disch := omega) only [eX3_begin_0, eX3_begin_1, eX3_begin_2, eX3_begin_3, eX3_begin_7, eX3_begin_8, eX3_begin_11, eX3_begin_14, eX3_begin_15, eX3_begin_19, eX3_begin_20, eX3_begin_23, eX3_begin_26, eX3_begin_28, eX3_begin_30, eX3_begin_31, eX3_begin_33, eX3_begin_34, eX3_begin_36, eX3_begin_37, eX3_begin_39, eX3_begin_41, eX3_begin_44, eX3_begin_46, eX3_begin_47, eX3_begin_49, eX3_begin_51, eX3_begin_54, eX3_begin_56, eX3_begin_57, eX3_begin_60, eX3_begin_62, eX3_begin_63, eX3_begin_64, eX3_begin_65, eX3_begin_69, eX3_begin_71, eX3_begin_74, eX3_begin_76, eX3_begin_79, eX3_begin_81, eX3_begin_84, eX3_begin_86, eX3_begin_88, eX3_begin_89, eX3_begin_90, eX3_begin_93, eX3_begin_94, eX3_begin_97, eX3_begin_98, eX3_begin_100, eX3_begin_101, eX3_begin_104, eX3_begin_105, eX3_begin_107, eX3_begin_108, eX3_begin_110, eX3_begin_113, eX3_begin_114, eX3_begin_116, eX3_begin_117, eX3_begin_120, eX3_begin_121, eX3_begin_124, eX3_begin_126, eX3_begin_127, eX3_begin_130, eX3_begin_133, eX3_begin_134, eX3_begin_136, eX3_begin_137, eX3_begin_138, eX3_begin_141, eX3_begin_144, eX3_begin_147, eX3_begin_150, fx_bd_some, Option.toList_some, Option.toList_none, List.nil_append, List.cons_append, fx_uo, fx_ui, Int.toNat_natCast, ↓reduceIte, Int.reduceEq, Int.reduceLT, Int.reduceLE, Int.reduceNeg, i1, hs2, Bool.false_eq_true]
      rw [if_pos (by omega)]
      (repeat' split)
      all_goals (refine fin _ _ ?_; simp; try omega)
theorem bg_n (Rf Cf : Nat → Nat) (nc : Nat) {g R C br bc : Nat} {pr pc ph : Nat → Nat} {sh : Nat → Nat → Bool} (hB : BW R C br bc pr pc ph) (σ0 : fx_M) (hC : CS Rf g R C br bc pr pc σ0) (hH : SH g br bc sh σ0) (r : Nat) (hr : r < br) :
    ∀ (d n : Nat) (σ : fx_M) (u6 u7 u8 u9 u10 : Option fx_V), n + d = bc → BI R C br bc pr pc ph sh σ0 (12 * r + n) 0 σ → ∃ (σ' : fx_M) (u5 u6' u7' u8' u9' u10' : Option fx_V), fx_E (fx_S Rf Cf nc) 33 17 [some (.inr (some (3, 0))), some (.inr (some (15, g))), some (.inr (some (14, g))), some (.inl (stF R C pr pc (12 * r + n) : Int)), some (.inl (r : Int)), some (.inl (n : Int)), u6, u7, u8, u9, u10] [] σ = fx_E (fx_S Rf Cf nc) 33 5 [some (.inr (some (3, 0))), some (.inr (some (15, g))), some (.inr (some (14, g))), some (.inl (stF R C pr pc (12 * (r + 1)) : Int)), some (.inl ((r + 1 : Nat) : Int)), u5, u6', u7', u8', u9', u10'] [] σ' ∧ BI R C br bc pr pc ph sh σ0 (12 * (r + 1)) 0 σ' := by
  obtain ⟨⟨b1, b2⟩, ⟨b3, b4⟩, ⟨b5, b6⟩, ⟨b7, b8⟩, b9, b10, b11⟩ := id hB
  intro d
  induction d with
  | zero =>
    intro n σ u6 u7 u8 u9 u10 h hI
    obtain rfl : n = bc := by omega
    have c3 : σ 15 g 6 = n := by rw [hI.1 _ _ _ (by omega)]; exact hC.2.2.1
    rw [eX3_begin_17]
    simp (disch := omega) only [eX3_begin_0, eX3_begin_1, eX3_begin_2, eX3_begin_3, eX3_begin_7, eX3_begin_8, eX3_begin_11, eX3_begin_14, eX3_begin_15, eX3_begin_19, eX3_begin_20, eX3_begin_23, eX3_begin_26, eX3_begin_28, eX3_begin_30, eX3_begin_31, eX3_begin_33, eX3_begin_34, eX3_begin_36, eX3_begin_37, eX3_begin_39, eX3_begin_41, eX3_begin_44, eX3_begin_46, eX3_begin_47, eX3_begin_49, eX3_begin_51, eX3_begin_54, eX3_begin_56, eX3_begin_57, eX3_begin_60, eX3_begin_62, eX3_begin_63, eX3_begin_64, eX3_begin_65, eX3_begin_69, eX3_begin_71, eX3_begin_74, eX3_begin_76, eX3_begin_79, eX3_begin_81, eX3_begin_84, eX3_begin_86, eX3_begin_88, eX3_begin_89, eX3_begin_90, eX3_begin_93, eX3_begin_94, eX3_begin_97, eX3_begin_98, eX3_begin_100, eX3_begin_101, eX3_begin_104, eX3_begin_105, eX3_begin_107, eX3_begin_108, eX3_begin_110, eX3_begin_113, eX3_begin_114, eX3_begin_116, eX3_begin_117, eX3_begin_120, eX3_begin_121, eX3_begin_124, eX3_begin_126, eX3_begin_127, eX3_begin_130, eX3_begin_133, eX3_begin_134, eX3_begin_136, eX3_begin_137, eX3_begin_138, eX3_begin_141, eX3_begin_144, eX3_begin_147, eX3_begin_150, fx_bd_some, Option.toList_some, Option.toList_none, List.nil_append, List.cons_append, fx_uo, fx_ui, Int.toNat_natCast, ↓reduceIte, Int.reduceEq, Int.reduceLT, Int.reduceLE, Int.reduceNeg, c3]
    rw [if_neg (by omega), show (r : Int) + 1 = ((r + 1 : Nat) : Int) by omega, ← stF_gap hB r]
    refine ⟨σ, _, _, _, _, _, _, rfl, hI.1, fun r' n' h1 h2 h3 => hI.2.1 r' n' h1 h2 (by omega), fun j hj hjc hp => hI.2.2 j hj hjc ?_⟩
    have := b9 j hj hjc
    omega
  | succ d ih =>
    intro n σ u6 u7 u8 u9 u10 h hI
    have hC' : CS Rf g R C br bc pr pc σ := hC.fr hI.1
    have c3 : σ 15 g 6 = bc := hC'.2.2.1
    have hsz : szA R C br bc pr pc r n = siz R C pr pc (12 * r + n) := by unfold szA; rw [if_pos (by omega)]; simp
    have e1 := sp_sizeAt Rf Cf nc hB hC' r n (by omega) (by omega)
    have e2 := sp_bareSide Rf Cf nc hB hC' r n (by omega) (by omega)
    rw [hsz] at e1
    have i0 : (r : Int) * 12 + (n : Int) = ((12 * r + n : Nat) : Int) := by omega
    obtain ⟨σ1, v6, v7, v8, v9, v10, q1, q2⟩ := bg_h Rf Cf nc hB σ0 hC hH r n hr (by omega) (siz R C pr pc (12 * r + n)) 0 (fx_up σ 4 0 (12 * r + n) (stF R C pr pc (12 * r + n))) u10 (by omega) (by rw [fx_ui, if_pos rfl]) ⟨fun o k x ho => by unfold fx_up; rw [if_neg (by omega)]; exact hI.1 o k x ho, fun r' n' h1 h2 h3 => by rw [fx_ui, if_neg (by omega)]; exact hI.2.1 r' n' h1 h2 h3, fun j hj hjc hp => by rw [fx_uo (by omega)]; exact hI.2.2 j hj hjc hp⟩
    obtain ⟨σ2, w5, w6, w7, w8, w9, w10, p1, p2⟩ := ih (n + 1) σ1 v6 v7 v8 v9 v10 (by omega) q2
    rw [eX3_begin_17]
    simp (disch := omega) only [eX3_begin_0, eX3_begin_1, eX3_begin_2, eX3_begin_3, eX3_begin_7, eX3_begin_8, eX3_begin_11, eX3_begin_14, eX3_begin_15, eX3_begin_19, eX3_begin_20, eX3_begin_23, eX3_begin_26, eX3_begin_28, eX3_begin_30, eX3_begin_31, eX3_begin_33, eX3_begin_34, eX3_begin_36, eX3_begin_37, eX3_begin_39, eX3_begin_41, eX3_begin_44, eX3_begin_46, eX3_begin_47, eX3_begin_49, eX3_begin_51, eX3_begin_54, eX3_begin_56, eX3_begin_57, eX3_begin_60, eX3_begin_62, eX3_begin_63, eX3_begin_64, eX3_begin_65, eX3_begin_69, eX3_begin_71, eX3_begin_74, eX3_begin_76, eX3_begin_79, eX3_begin_81, eX3_begin_84, eX3_begin_86, eX3_begin_88, eX3_begin_89, eX3_begin_90, eX3_begin_93, eX3_begin_94, eX3_begin_97, eX3_begin_98, eX3_begin_100, eX3_begin_101, eX3_begin_104, eX3_begin_105, eX3_begin_107, eX3_begin_108, eX3_begin_110, eX3_begin_113, eX3_begin_114, eX3_begin_116, eX3_begin_117, eX3_begin_120, eX3_begin_121, eX3_begin_124, eX3_begin_126, eX3_begin_127, eX3_begin_130, eX3_begin_133, eX3_begin_134, eX3_begin_136, eX3_begin_137, eX3_begin_138, eX3_begin_141, eX3_begin_144, eX3_begin_147, eX3_begin_150, fx_bd_some, Option.toList_some, Option.toList_none, List.nil_append, List.cons_append, fx_uo, fx_ui, Int.toNat_natCast, ↓reduceIte, Int.reduceEq, Int.reduceLT, Int.reduceLE, Int.reduceNeg, c3, i0, e1, e2]
    rw [if_pos (by omega)]
    exact ⟨σ2, w5, w6, w7, w8, w9, w10, q1.trans p1, p2⟩
theorem bg_r (Rf Cf : Nat → Nat) (nc : Nat) {g R C br bc : Nat} {pr pc ph : Nat → Nat} {sh : Nat → Nat → Bool} (hB : BW R C br bc pr pc ph) (σ0 : fx_M) (hC : CS Rf g R C br bc pr pc σ0) (hH : SH g br bc sh σ0) :
    ∀ (d r : Nat) (σ : fx_M) (u5 u6 u7 u8 u9 u10 : Option fx_V), r + d = br → BI R C br bc pr pc ph sh σ0 (12 * r) 0 σ → ∃ (σ' : fx_M), fx_E (fx_S Rf Cf nc) 33 5 [some (.inr (some (3, 0))), some (.inr (some (15, g))), some (.inr (some (14, g))), some (.inl (stF R C pr pc (12 * r) : Int)), some (.inl (r : Int)), u5, u6, u7, u8, u9, u10] [] σ = some (none, σ') ∧ BI R C br bc pr pc ph sh σ0 (12 * br) 0 σ' := by
  obtain ⟨⟨b1, b2⟩, ⟨b3, b4⟩, ⟨b5, b6⟩, ⟨b7, b8⟩, b9, b10, b11⟩ := id hB
  intro d
  induction d with
  | zero =>
    intro r σ u5 u6 u7 u8 u9 u10 h hI
    obtain rfl : r = br := by omega
    have c2 : σ 15 g 5 = r := by rw [hI.1 _ _ _ (by omega)]; exact hC.2.1
    rw [eX3_begin_5]
    simp (disch := omega) only [eX3_begin_0, eX3_begin_1, eX3_begin_2, eX3_begin_3, eX3_begin_7, eX3_begin_8, eX3_begin_11, eX3_begin_14, eX3_begin_15, eX3_begin_19, eX3_begin_20, eX3_begin_23, eX3_begin_26, eX3_begin_28, eX3_begin_30, eX3_begin_31, eX3_begin_33, eX3_begin_34, eX3_begin_36, eX3_begin_37, eX3_begin_39, eX3_begin_41, eX3_begin_44, eX3_begin_46, eX3_begin_47, eX3_begin_49, eX3_begin_51, eX3_begin_54, eX3_begin_56, eX3_begin_57, eX3_begin_60, eX3_begin_62, eX3_begin_63, eX3_begin_64, eX3_begin_65, eX3_begin_69, eX3_begin_71, eX3_begin_74, eX3_begin_76, eX3_begin_79, eX3_begin_81, eX3_begin_84, eX3_begin_86, eX3_begin_88, eX3_begin_89, eX3_begin_90, eX3_begin_93, eX3_begin_94, eX3_begin_97, eX3_begin_98, eX3_begin_100, eX3_begin_101, eX3_begin_104, eX3_begin_105, eX3_begin_107, eX3_begin_108, eX3_begin_110, eX3_begin_113, eX3_begin_114, eX3_begin_116, eX3_begin_117, eX3_begin_120, eX3_begin_121, eX3_begin_124, eX3_begin_126, eX3_begin_127, eX3_begin_130, eX3_begin_133, eX3_begin_134, eX3_begin_136, eX3_begin_137, eX3_begin_138, eX3_begin_141, eX3_begin_144, eX3_begin_147, eX3_begin_150, fx_bd_some, Option.toList_some, Option.toList_none, List.nil_append, List.cons_append, fx_uo, fx_ui, Int.toNat_natCast, ↓reduceIte, Int.reduceEq, Int.reduceLT, Int.reduceLE, Int.reduceNeg, c2]
    rw [if_neg (by omega)]
    exact ⟨σ, rfl, hI⟩
  | succ d ih =>
    intro r σ u5 u6 u7 u8 u9 u10 h hI
    have c2 : σ 15 g 5 = br := by rw [hI.1 _ _ _ (by omega)]; exact hC.2.1
    obtain ⟨σ1, v5, v6, v7, v8, v9, v10, q1, q2⟩ := bg_n Rf Cf nc hB σ0 hC hH r (by omega) bc 0 σ u6 u7 u8 u9 u10 (by omega) hI
    obtain ⟨σ2, p1, p2⟩ := ih (r + 1) σ1 v5 v6 v7 v8 v9 v10 (by omega) q2
    rw [eX3_begin_5]
    simp (disch := omega) only [eX3_begin_0, eX3_begin_1, eX3_begin_2, eX3_begin_3, eX3_begin_7, eX3_begin_8, eX3_begin_11, eX3_begin_14, eX3_begin_15, eX3_begin_19, eX3_begin_20, eX3_begin_23, eX3_begin_26, eX3_begin_28, eX3_begin_30, eX3_begin_31, eX3_begin_33, eX3_begin_34, eX3_begin_36, eX3_begin_37, eX3_begin_39, eX3_begin_41, eX3_begin_44, eX3_begin_46, eX3_begin_47, eX3_begin_49, eX3_begin_51, eX3_begin_54, eX3_begin_56, eX3_begin_57, eX3_begin_60, eX3_begin_62, eX3_begin_63, eX3_begin_64, eX3_begin_65, eX3_begin_69, eX3_begin_71, eX3_begin_74, eX3_begin_76, eX3_begin_79, eX3_begin_81, eX3_begin_84, eX3_begin_86, eX3_begin_88, eX3_begin_89, eX3_begin_90, eX3_begin_93, eX3_begin_94, eX3_begin_97, eX3_begin_98, eX3_begin_100, eX3_begin_101, eX3_begin_104, eX3_begin_105, eX3_begin_107, eX3_begin_108, eX3_begin_110, eX3_begin_113, eX3_begin_114, eX3_begin_116, eX3_begin_117, eX3_begin_120, eX3_begin_121, eX3_begin_124, eX3_begin_126, eX3_begin_127, eX3_begin_130, eX3_begin_133, eX3_begin_134, eX3_begin_136, eX3_begin_137, eX3_begin_138, eX3_begin_141, eX3_begin_144, eX3_begin_147, eX3_begin_150, fx_bd_some, Option.toList_some, Option.toList_none, List.nil_append, List.cons_append, fx_uo, fx_ui, Int.toNat_natCast, ↓reduceIte, Int.reduceEq, Int.reduceLT, Int.reduceLE, Int.reduceNeg, c2]
    rw [if_pos (by omega)]
    exact ⟨σ2, q1.trans p1, p2⟩
theorem sp_begin (Rf Cf : Nat → Nat) (nc : Nat) {g R C br bc : Nat} {pr pc ph : Nat → Nat} {sh : Nat → Nat → Bool} (hB : BW R C br bc pr pc ph) {σ : fx_M} (hC : CS Rf g R C br bc pr pc σ) (hH : SH g br bc sh σ) :
    ∃ σ', fx_Ca (fx_S Rf Cf nc) 33 [.inr (some (3, 0)), .inr (some (15, g)), .inr (some (14, g))] σ = some (none, σ') ∧ (∀ o k x, ¬ (k = 0 ∧ (o = 4 ∨ o = 5)) → σ' o k x = σ o k x) ∧ (∀ r n, r < br → n < bc → σ' 4 0 (12 * r + n) = stF R C pr pc (12 * r + n)) ∧ ∀ j, j < 144 → isC R C j → σ' 5 0 (sl R C pr pc ph j) = if srcC R C br bc pr pc ph sh j = true then 1 else 1000000 := by
  obtain ⟨⟨b1, b2⟩, ⟨b3, b4⟩, ⟨b5, b6⟩, ⟨b7, b8⟩, b9, b10, b11⟩ := id hB
  obtain ⟨σ', p1, p2⟩ := bg_r Rf Cf nc hB σ hC hH br 0 σ none none none none none none (by omega) ⟨fun _ _ _ _ => rfl, fun r n h1 h2 h3 => by omega, fun j hj hjc hp => by omega⟩
  refine ⟨σ', ?_, p2.1, fun r n h1 h2 => p2.2.1 r n h1 h2 (by omega), fun j hj hjc => p2.2.2 j hj hjc (Or.inl (by have := b9 j hj hjc; omega))⟩
  rw [entX3_begin]
  simp only [eX3_begin_0, eX3_begin_1, eX3_begin_2, eX3_begin_3, eX3_begin_7, eX3_begin_8, eX3_begin_11, eX3_begin_14, eX3_begin_15, eX3_begin_19, eX3_begin_20, eX3_begin_23, eX3_begin_26, eX3_begin_28, eX3_begin_30, eX3_begin_31, eX3_begin_33, eX3_begin_34, eX3_begin_36, eX3_begin_37, eX3_begin_39, eX3_begin_41, eX3_begin_44, eX3_begin_46, eX3_begin_47, eX3_begin_49, eX3_begin_51, eX3_begin_54, eX3_begin_56, eX3_begin_57, eX3_begin_60, eX3_begin_62, eX3_begin_63, eX3_begin_64, eX3_begin_65, eX3_begin_69, eX3_begin_71, eX3_begin_74, eX3_begin_76, eX3_begin_79, eX3_begin_81, eX3_begin_84, eX3_begin_86, eX3_begin_88, eX3_begin_89, eX3_begin_90, eX3_begin_93, eX3_begin_94, eX3_begin_97, eX3_begin_98, eX3_begin_100, eX3_begin_101, eX3_begin_104, eX3_begin_105, eX3_begin_107, eX3_begin_108, eX3_begin_110, eX3_begin_113, eX3_begin_114, eX3_begin_116, eX3_begin_117, eX3_begin_120, eX3_begin_121, eX3_begin_124, eX3_begin_126, eX3_begin_127, eX3_begin_130, eX3_begin_133, eX3_begin_134, eX3_begin_136, eX3_begin_137, eX3_begin_138, eX3_begin_141, eX3_begin_144, eX3_begin_147, eX3_begin_150]
  exact p1
/-! the seep: one round -/
theorem RI.congr {R C br bc : Nat} {pr pc ph : Nat → Nat} {sh : Nat → Nat → Bool} {L S : Int} {d e : Nat → Int} (h : RI R C br bc pr pc ph sh L S d) (hq : ∀ j, j < 144 → isC R C j → e j = d j) : RI R C br bc pr pc ph sh L S e := by
  obtain ⟨h1, h2, h3⟩ := h
  refine ⟨fun j hj hjc => by rw [hq j hj hjc]; exact h1 j hj hjc, fun j hj hjc hs => by rw [hq j hj hjc]; exact h2 j hj hjc hs, fun j hj hjc hlt => ?_⟩
  rw [hq j hj hjc] at hlt ⊢
  rcases h3 j hj hjc hlt with q | ⟨q1, k, i, q2, q3, q4, q5, q6⟩
  · exact Or.inl q
  · exact Or.inr ⟨q1, k, i, q2, q3, q4, q5, by rw [hq k q2 q3]; exact q6⟩
def GI (R C br bc : Nat) (pr pc ph : Nat → Nat) (sh : Nat → Nat → Bool) (L S : Int) (σ0 : fx_M) (p h : Nat) (v : Int) (σ : fx_M) : Prop :=
  (∀ o k x, o ≠ 5 → σ o k x = σ0 o k x) ∧ (∀ k x, k ≠ 0 → σ 5 k x = σ0 5 k x) ∧ RI R C br bc pr pc ph sh L S (fun j => σ 5 0 (sl R C pr pc ph j)) ∧ (∀ j, j < 144 → isC R C j → σ 5 0 (sl R C pr pc ph j) ≤ σ0 5 0 (sl R C pr pc ph j)) ∧ (v = 0 ∨ v = 1) ∧ (v = 0 → σ = σ0) ∧
  ∀ j, j < 144 → isC R C j → sh (pr j) (pc j) = false → (12 * pr j + pc j < p ∨ (12 * pr j + pc j = p ∧ ph j < h)) → ∀ k i, k < 144 → isC R C k → i < 6 → edg R C pr pc ph k i j → σ 5 0 (sl R C pr pc ph j) ≤ σ0 5 0 (sl R C pr pc ph k) + wt L S i
theorem go_h (Rf Cf : Nat → Nat) (nc : Nat) {g R C br bc : Nat} {pr pc ph : Nat → Nat} {sh : Nat → Nat → Bool} {L S : Int} (hB : BW R C br bc pr pc ph) (hL : 1 ≤ L ∧ L ≤ 100) (hS : 1 ≤ S ∧ S ≤ 100) (σ0 : fx_M) (hX : SX Rf g R C br bc pr pc L S σ0) (hH : SH g br bc sh σ0) (r n : Nat) (hr : r < br) (hn : n < bc) (hsh : sh r n = false) :
    ∀ (d h : Nat) (v : Int) (σ : fx_M), h + d = siz R C pr pc (12 * r + n) → GI R C br bc pr pc ph sh L S σ0 (12 * r + n) h v σ → ∃ (v' : Int) (σ' : fx_M) (u6 u7 : Option fx_V), fx_E (fx_S Rf Cf nc) 34 56 [some (.inr (some (3, 0))), some (.inr (some (15, g))), some (.inr (some (14, g))), some (.inl v), some (.inl (r : Int)), some (.inl (n : Int)), some (.inl (siz R C pr pc (12 * r + n) : Int)), some (.inl (h : Int))] [] σ = fx_E (fx_S Rf Cf nc) 34 17 [some (.inr (some (3, 0))), some (.inr (some (15, g))), some (.inr (some (14, g))), some (.inl v'), some (.inl (r : Int)), some (.inl ((n + 1 : Nat) : Int)), u6, u7] [] σ' ∧ GI R C br bc pr pc ph sh L S σ0 (12 * r + n + 1) 0 v' σ' := by
  obtain ⟨⟨b1, b2⟩, ⟨b3, b4⟩, ⟨b5, b6⟩, ⟨b7, b8⟩, b9, b10, b11⟩ := id hB
  have g4 := b10 (12 * r + n)
  intro d
  induction d with
  | zero =>
    intro h v σ hh hI
    obtain rfl : h = siz R C pr pc (12 * r + n) := by omega
    rw [eX3_goOn_56]
    simp (disch := omega) only [eX3_goOn_0, eX3_goOn_1, eX3_goOn_2, eX3_goOn_3, eX3_goOn_7, eX3_goOn_8, eX3_goOn_11, eX3_goOn_14, eX3_goOn_15, eX3_goOn_19, eX3_goOn_20, eX3_goOn_23, eX3_goOn_26, eX3_goOn_27, eX3_goOn_29, eX3_goOn_31, eX3_goOn_32, eX3_goOn_34, eX3_goOn_35, eX3_goOn_36, eX3_goOn_39, eX3_goOn_40, eX3_goOn_43, eX3_goOn_44, eX3_goOn_46, eX3_goOn_48, eX3_goOn_51, eX3_goOn_53, eX3_goOn_54, eX3_goOn_58, eX3_goOn_60, eX3_goOn_63, eX3_goOn_64, eX3_goOn_65, eX3_goOn_67, eX3_goOn_69, eX3_goOn_71, eX3_goOn_74, eX3_goOn_77, eX3_goOn_78, eX3_goOn_79, eX3_goOn_82, eX3_goOn_85, eX3_goOn_88, eX3_goOn_91, eX3_goOn_94, eX3_goOn_97, eX3_goOn_98, fx_bd_some, Option.toList_some, Option.toList_none, List.nil_append, List.cons_append, fx_uo, fx_ui, Int.toNat_natCast, ↓reduceIte, Int.reduceEq, Int.reduceLT, Int.reduceLE, Int.reduceNeg]
    rw [if_neg (by omega), show (n : Int) + 1 = ((n + 1 : Nat) : Int) by omega]
    obtain ⟨i1, i2, i3, i4, i5, i6, i7⟩ := hI
    refine ⟨v, σ, _, _, rfl, i1, i2, i3, i4, i5, i6, fun j hj hjc hs hp => i7 j hj hjc hs ?_⟩
    have := (b9 j hj hjc).2.2
    rcases hp with hp | hp
    · by_cases q : 12 * pr j + pc j = 12 * r + n
      · right; rw [q] at this; exact ⟨q, this⟩
      · left; omega
    · omega
  | succ d ih =>
    intro h v σ hh hI
    obtain ⟨i1, i2, i3, i4, i5, i6, i7⟩ := id hI
    have hX' : SX Rf g R C br bc pr pc L S σ := hX.of i1
    have hsz : szA R C br bc pr pc r n = siz R C pr pc (12 * r + n) := by unfold szA; rw [if_pos (by omega)]; simp
    obtain ⟨j, hj⟩ := at_ex hB (r := r) (n := n) (h := h) (by omega) (by rw [hsz]; omega)
    obtain ⟨hj1, hjc, hjr, hjn, hjh⟩ := id hj
    have er : pr j = r := by omega
    have en : pc j = n := by omega
    have eh : ph j = h := by omega
    obtain ⟨w, σ1, e1, o1⟩ := sp_shorten Rf Cf nc hB hX' hL hS i3.1 j hj1 hjc
    rw [er, en, eh] at e1
    have key : ∀ (v1 : Int) (σ1 : fx_M), (∀ o k x, o ≠ 5 → σ1 o k x = σ o k x) → (∀ k x, k ≠ 0 → σ1 5 k x = σ 5 k x) → RI R C br bc pr pc ph sh L S (fun j => σ1 5 0 (sl R C pr pc ph j)) → (∀ j, j < 144 → isC R C j → σ1 5 0 (sl R C pr pc ph j) ≤ σ 5 0 (sl R C pr pc ph j)) → (v1 = 0 ∨ v1 = 1) → (v1 = 0 → σ1 = σ0) → (∀ k i, k < 144 → isC R C k → i < 6 → edg R C pr pc ph k i j → σ1 5 0 (sl R C pr pc ph j) ≤ σ 5 0 (sl R C pr pc ph k) + wt L S i) → GI R C br bc pr pc ph sh L S σ0 (12 * r + n) (h + 1) v1 σ1 := by
      intro v1 σ1 k1 k2 k3 k4 k5 k6 k7
      refine ⟨fun o k x ho => by rw [k1 o k x ho]; exact i1 o k x ho, fun k x hk => by rw [k2 k x hk]; exact i2 k x hk, k3, fun j hj hjc => Int.le_trans (k4 j hj hjc) (i4 j hj hjc), k5, k6, fun j' hj' hjc' hs' hp k i hk hkc hi he => ?_⟩
      by_cases q : j' = j
      · subst q
        have := k7 k i hk hkc hi he
        have := i4 k hk hkc
        omega
      · have h1 := k4 j' hj' hjc'
        have h2 := i7 j' hj' hjc' hs' (by
          rcases hp with hp | ⟨hp1, hp2⟩
          · exact Or.inl hp
          · right
            refine ⟨hp1, ?_⟩
            have : ph j' ≠ h := fun q3 => q (b11 j' j hj' hj1 hjc' hjc (by have := b9 j' hj' hjc'; omega) (by have := b9 j' hj' hjc'; omega) (by omega))
            omega) k i hk hkc hi he
        omega
    rw [eX3_goOn_56]
    rcases o1 with ⟨rfl, rfl, o2⟩ | ⟨rfl, k', i, o2, o3, o4, o5, o6, o7, o8⟩
    · simp (disch := omega) only [eX3_goOn_0, eX3_goOn_1, eX3_goOn_2, eX3_goOn_3, eX3_goOn_7, eX3_goOn_8, eX3_goOn_11, eX3_goOn_14, eX3_goOn_15, eX3_goOn_19, eX3_goOn_20, eX3_goOn_23, eX3_goOn_26, eX3_goOn_27, eX3_goOn_29, eX3_goOn_31, eX3_goOn_32, eX3_goOn_34, eX3_goOn_35, eX3_goOn_36, eX3_goOn_39, eX3_goOn_40, eX3_goOn_43, eX3_goOn_44, eX3_goOn_46, eX3_goOn_48, eX3_goOn_51, eX3_goOn_53, eX3_goOn_54, eX3_goOn_58, eX3_goOn_60, eX3_goOn_63, eX3_goOn_64, eX3_goOn_65, eX3_goOn_67, eX3_goOn_69, eX3_goOn_71, eX3_goOn_74, eX3_goOn_77, eX3_goOn_78, eX3_goOn_79, eX3_goOn_82, eX3_goOn_85, eX3_goOn_88, eX3_goOn_91, eX3_goOn_94, eX3_goOn_97, eX3_goOn_98, fx_bd_some, Option.toList_some, Option.toList_none, List.nil_append, List.cons_append, fx_uo, fx_ui, Int.toNat_natCast, ↓reduceIte, Int.reduceEq, Int.reduceLT, Int.reduceLE, Int.reduceNeg, e1]
      rw [if_pos (by omega), show (h : Int) + 1 = ((h + 1 : Nat) : Int) by omega]
      exact ih (h + 1) v σ1 (by omega) (key v σ1 (fun _ _ _ _ => rfl) (fun _ _ _ => rfl) i3 (fun _ _ _ => Int.le_refl _) i5 i6 (fun k i hk hkc hi he => o2 k i hk hkc hi he))
    · simp (disch := omega) only [eX3_goOn_0, eX3_goOn_1, eX3_goOn_2, eX3_goOn_3, eX3_goOn_7, eX3_goOn_8, eX3_goOn_11, eX3_goOn_14, eX3_goOn_15, eX3_goOn_19, eX3_goOn_20, eX3_goOn_23, eX3_goOn_26, eX3_goOn_27, eX3_goOn_29, eX3_goOn_31, eX3_goOn_32, eX3_goOn_34, eX3_goOn_35, eX3_goOn_36, eX3_goOn_39, eX3_goOn_40, eX3_goOn_43, eX3_goOn_44, eX3_goOn_46, eX3_goOn_48, eX3_goOn_51, eX3_goOn_53, eX3_goOn_54, eX3_goOn_58, eX3_goOn_60, eX3_goOn_63, eX3_goOn_64, eX3_goOn_65, eX3_goOn_67, eX3_goOn_69, eX3_goOn_71, eX3_goOn_74, eX3_goOn_77, eX3_goOn_78, eX3_goOn_79, eX3_goOn_82, eX3_goOn_85, eX3_goOn_88, eX3_goOn_91, eX3_goOn_94, eX3_goOn_97, eX3_goOn_98, fx_bd_some, Option.toList_some, Option.toList_none, List.nil_append, List.cons_append, fx_uo, fx_ui, Int.toNat_natCast, ↓reduceIte, Int.reduceEq, Int.reduceLT, Int.reduceLE, Int.reduceNeg, e1]
      rw [if_pos (by omega), show (h : Int) + 1 = ((h + 1 : Nat) : Int) by omega]
      have hval : ∀ x, x < 144 → isC R C x → σ1 5 0 (sl R C pr pc ph x) = if x = j then σ 5 0 (sl R C pr pc ph k') + wt L S i else σ 5 0 (sl R C pr pc ph x) := fun x hx hxc => by
        rw [o7, fx_ui]
        by_cases q : x = j
        · rw [if_pos (by rw [q]), if_pos q]
        · rw [if_neg (fun q2 => q (sl_inj hB hx hxc hj1 hjc q2)), if_neg q]
      refine ih (h + 1) 1 σ1 (by omega) (key 1 σ1 (fun o k x ho => ?_) (fun k x hk => ?_) ?_ (fun x hx hxc => ?_) (Or.inr rfl) (fun q => by omega) (fun k i' hk hkc hi he => ?_))
      · rw [o7, fx_uo ho]
      · rw [o7]; unfold fx_up; rw [if_neg (by omega)]
      · exact (i3.up hL.1 hS.1 o2 o3 o4 o5 (by rw [er, en]; exact hsh) o6).congr hval
      · rw [hval x hx hxc]
        split
        · rename_i q; rw [q]; omega
        · exact Int.le_refl _
      · rw [hval j hj1 hjc, if_pos rfl]
        exact o8 k i' hk hkc hi he
theorem go_n (Rf Cf : Nat → Nat) (nc : Nat) {g R C br bc : Nat} {pr pc ph : Nat → Nat} {sh : Nat → Nat → Bool} {L S : Int} (hB : BW R C br bc pr pc ph) (hL : 1 ≤ L ∧ L ≤ 100) (hS : 1 ≤ S ∧ S ≤ 100) (σ0 : fx_M) (hX : SX Rf g R C br bc pr pc L S σ0) (hH : SH g br bc sh σ0) (r : Nat) (hr : r < br) :
    ∀ (d n : Nat) (v : Int) (σ : fx_M) (u6 u7 : Option fx_V), n + d = bc → GI R C br bc pr pc ph sh L S σ0 (12 * r + n) 0 v σ → ∃ (v' : Int) (σ' : fx_M) (u5 u6' u7' : Option fx_V), fx_E (fx_S Rf Cf nc) 34 17 [some (.inr (some (3, 0))), some (.inr (some (15, g))), some (.inr (some (14, g))), some (.inl v), some (.inl (r : Int)), some (.inl (n : Int)), u6, u7] [] σ = fx_E (fx_S Rf Cf nc) 34 5 [some (.inr (some (3, 0))), some (.inr (some (15, g))), some (.inr (some (14, g))), some (.inl v'), some (.inl ((r + 1 : Nat) : Int)), u5, u6', u7'] [] σ' ∧ GI R C br bc pr pc ph sh L S σ0 (12 * (r + 1)) 0 v' σ' := by
  obtain ⟨⟨b1, b2⟩, ⟨b3, b4⟩, ⟨b5, b6⟩, ⟨b7, b8⟩, b9, b10, b11⟩ := id hB
  intro d
  induction d with
  | zero =>
    intro n v σ u6 u7 h hI
    obtain rfl : n = bc := by omega
    obtain ⟨i1, i2, i3, i4, i5, i6, i7⟩ := id hI
    have c3 : σ 15 g 6 = n := by rw [i1 _ _ _ (by omega)]; exact hX.1.2.2.1
    rw [eX3_goOn_17]
    simp (disch := omega) only [eX3_goOn_0, eX3_goOn_1, eX3_goOn_2, eX3_goOn_3, eX3_goOn_7, eX3_goOn_8, eX3_goOn_11, eX3_goOn_14, eX3_goOn_15, eX3_goOn_19, eX3_goOn_20, eX3_goOn_23, eX3_goOn_26, eX3_goOn_27, eX3_goOn_29, eX3_goOn_31, eX3_goOn_32, eX3_goOn_34, eX3_goOn_35, eX3_goOn_36, eX3_goOn_39, eX3_goOn_40, eX3_goOn_43, eX3_goOn_44, eX3_goOn_46, eX3_goOn_48, eX3_goOn_51, eX3_goOn_53, eX3_goOn_54, eX3_goOn_58, eX3_goOn_60, eX3_goOn_63, eX3_goOn_64, eX3_goOn_65, eX3_goOn_67, eX3_goOn_69, eX3_goOn_71, eX3_goOn_74, eX3_goOn_77, eX3_goOn_78, eX3_goOn_79, eX3_goOn_82, eX3_goOn_85, eX3_goOn_88, eX3_goOn_91, eX3_goOn_94, eX3_goOn_97, eX3_goOn_98, fx_bd_some, Option.toList_some, Option.toList_none, List.nil_append, List.cons_append, fx_uo, fx_ui, Int.toNat_natCast, ↓reduceIte, Int.reduceEq, Int.reduceLT, Int.reduceLE, Int.reduceNeg, c3]
    rw [if_neg (by omega), show (r : Int) + 1 = ((r + 1 : Nat) : Int) by omega]
    refine ⟨v, σ, _, _, _, rfl, i1, i2, i3, i4, i5, i6, fun j hj hjc hs hp => i7 j hj hjc hs ?_⟩
    have := b9 j hj hjc
    omega
  | succ d ih =>
    intro n v σ u6 u7 h hI
    obtain ⟨i1, i2, i3, i4, i5, i6, i7⟩ := id hI
    have hX' : SX Rf g R C br bc pr pc L S σ := hX.of i1
    have c3 : σ 15 g 6 = bc := hX'.1.2.2.1
    have a2 := hX.1.1
    have hsz : szA R C br bc pr pc r n = siz R C pr pc (12 * r + n) := by unfold szA; rw [if_pos (by omega)]; simp
    have e1 := sp_sizeAt Rf Cf nc hB hX'.1 r n (by omega) (by omega)
    rw [hsz] at e1
    have i0 : (r : Int) * 12 + (n : Int) = ((12 * r + n : Nat) : Int) := by omega
    have hs2 : σ 14 g (12 * r + n) = if sh r n then 1 else 0 := by rw [i1 _ _ _ (by omega)]; exact hH r n hr (by omega)
    rw [eX3_goOn_17]
    cases hsh : sh r n with
    | true =>
      rw [hsh] at hs2
      simp (disch := omega) only [eX3_goOn_0, eX3_goOn_1, eX3_goOn_2, eX3_goOn_3, eX3_goOn_7, eX3_goOn_8, eX3_goOn_11, eX3_goOn_14, eX3_goOn_15, eX3_goOn_19, eX3_goOn_20, eX3_goOn_23, eX3_goOn_26, eX3_goOn_27, eX3_goOn_29, eX3_goOn_31, eX3_goOn_32, eX3_goOn_34, eX3_goOn_35, eX3_goOn_36, eX3_goOn_39, eX3_goOn_40, eX3_goOn_43, eX3_goOn_44, eX3_goOn_46, eX3_goOn_48, eX3_goOn_51, eX3_goOn_53, eX3_goOn_54, eX3_goOn_58, eX3_goOn_60, eX3_goOn_63, eX3_goOn_64, eX3_goOn_65, eX3_goOn_67, eX3_goOn_69, eX3_goOn_71, eX3_goOn_74, eX3_goOn_77, eX3_goOn_78, eX3_goOn_79, eX3_goOn_82, eX3_goOn_85, eX3_goOn_88, eX3_goOn_91, eX3_goOn_94, eX3_goOn_97, eX3_goOn_98, fx_bd_some, Option.toList_some, Option.toList_none, List.nil_append, List.cons_append, fx_uo, fx_ui, Int.toNat_natCast, ↓reduceIte, Int.reduceEq, Int.reduceLT, Int.reduceLE, Int.reduceNeg, c3, i0, hs2]
      rw [if_pos (by omega), eX3_goOn_56]
      simp (disch := omega) only [eX3_goOn_0, eX3_goOn_1, eX3_goOn_2, eX3_goOn_3, eX3_goOn_7, eX3_goOn_8, eX3_goOn_11, eX3_goOn_14, eX3_goOn_15, eX3_goOn_19, eX3_goOn_20, eX3_goOn_23, eX3_goOn_26, eX3_goOn_27, eX3_goOn_29, eX3_goOn_31, eX3_goOn_32, eX3_goOn_34, eX3_goOn_35, eX3_goOn_36, eX3_goOn_39, eX3_goOn_40, eX3_goOn_43, eX3_goOn_44, eX3_goOn_46, eX3_goOn_48, eX3_goOn_51, eX3_goOn_53, eX3_goOn_54, eX3_goOn_58, eX3_goOn_60, eX3_goOn_63, eX3_goOn_64, eX3_goOn_65, eX3_goOn_67, eX3_goOn_69, eX3_goOn_71, eX3_goOn_74, eX3_goOn_77, eX3_goOn_78, eX3_goOn_79, eX3_goOn_82, eX3_goOn_85, eX3_goOn_88, eX3_goOn_91, eX3_goOn_94, eX3_goOn_97, eX3_goOn_98, fx_bd_some, Option.toList_some, Option.toList_none, List.nil_append, List.cons_append, fx_uo, fx_ui, Int.toNat_natCast, ↓reduceIte, Int.reduceEq, Int.reduceLT, Int.reduceLE, Int.reduceNeg]
      rw [show (n : Int) + 1 = ((n + 1 : Nat) : Int) by omega]
      refine ih (n + 1) v σ _ _ (by omega) ⟨i1, i2, i3, i4, i5, i6, fun j hj hjc hs hp => i7 j hj hjc hs ?_⟩
      rcases hp with hp | hp
      · left
        have := b9 j hj hjc
        by_cases q : 12 * pr j + pc j = 12 * r + n
        · rw [show pr j = r by omega, show pc j = n by omega, hsh] at hs
          cases hs
        · omega
      · omega
    | false =>
      rw [hsh] at hs2
      obtain ⟨v1, σ1, v6, v7, q1, q2⟩ := go_h Rf Cf nc hB hL hS σ0 hX hH r n hr (by omega) hsh (siz R C pr pc (12 * r + n)) 0 v σ (by omega) hI
      obtain ⟨v2, σ2, w5, w6, w7, p1, p2⟩ := ih (n + 1) v1 σ1 v6 v7 (by omega) q2
      simp (disch := omega) only [eX3_goOn_0, eX3_goOn_1, eX3_goOn_2, eX3_goOn_3, eX3_goOn_7, eX3_goOn_8, eX3_goOn_11, eX3_goOn_14, eX3_goOn_15, eX3_goOn_19, eX3_goOn_20, eX3_goOn_23, eX3_goOn_26, eX3_goOn_27, eX3_goOn_29, eX3_goOn_31, eX3_goOn_32, eX3_goOn_34, eX3_goOn_35, eX3_goOn_36, eX3_goOn_39, eX3_goOn_40, eX3_goOn_43, eX3_goOn_44, eX3_goOn_46, eX3_goOn_48, eX3_goOn_51, eX3_goOn_53, eX3_goOn_54, eX3_goOn_58, eX3_goOn_60, eX3_goOn_63, eX3_goOn_64, eX3_goOn_65, eX3_goOn_67, eX3_goOn_69, eX3_goOn_71, eX3_goOn_74, eX3_goOn_77, eX3_goOn_78, eX3_goOn_79, eX3_goOn_82, eX3_goOn_85, eX3_goOn_88, eX3_goOn_91, eX3_goOn_94, eX3_goOn_97, eX3_goOn_98, fx_bd_some, Option.toList_some, Option.toList_none, List.nil_append, List.cons_append, fx_uo, fx_ui, Int.toNat_natCast, ↓reduceIte, Int.reduceEq, Int.reduceLT, Int.reduceLE, Int.reduceNeg, c3, i0, hs2, e1, Bool.false_eq_true]
      rw [if_pos (by omega)]
      exact ⟨v2, σ2, w5, w6, w7, q1.trans p1, p2⟩
theorem go_r (Rf Cf : Nat → Nat) (nc : Nat) {g R C br bc : Nat} {pr pc ph : Nat → Nat} {sh : Nat → Nat → Bool} {L S : Int} (hB : BW R C br bc pr pc ph) (hL : 1 ≤ L ∧ L ≤ 100) (hS : 1 ≤ S ∧ S ≤ 100) (σ0 : fx_M) (hX : SX Rf g R C br bc pr pc L S σ0) (hH : SH g br bc sh σ0) :
    ∀ (d r : Nat) (v : Int) (σ : fx_M) (u5 u6 u7 : Option fx_V), r + d = br → GI R C br bc pr pc ph sh L S σ0 (12 * r) 0 v σ → ∃ (v' : Int) (σ' : fx_M), fx_E (fx_S Rf Cf nc) 34 5 [some (.inr (some (3, 0))), some (.inr (some (15, g))), some (.inr (some (14, g))), some (.inl v), some (.inl (r : Int)), u5, u6, u7] [] σ = some (some (.inl v'), σ') ∧ GI R C br bc pr pc ph sh L S σ0 (12 * br) 0 v' σ' := by
  obtain ⟨⟨b1, b2⟩, ⟨b3, b4⟩, ⟨b5, b6⟩, ⟨b7, b8⟩, b9, b10, b11⟩ := id hB
  intro d
  induction d with
  | zero =>
    intro r v σ u5 u6 u7 h hI
    obtain rfl : r = br := by omega
    have c2 : σ 15 g 5 = r := by rw [hI.1 _ _ _ (by omega)]; exact hX.1.2.1
    have hv := hI.2.2.2.2.1
    rw [eX3_goOn_5]
    simp (disch := omega) only [eX3_goOn_0, eX3_goOn_1, eX3_goOn_2, eX3_goOn_3, eX3_goOn_7, eX3_goOn_8, eX3_goOn_11, eX3_goOn_14, eX3_goOn_15, eX3_goOn_19, eX3_goOn_20, eX3_goOn_23, eX3_goOn_26, eX3_goOn_27, eX3_goOn_29, eX3_goOn_31, eX3_goOn_32, eX3_goOn_34, eX3_goOn_35, eX3_goOn_36, eX3_goOn_39, eX3_goOn_40, eX3_goOn_43, eX3_goOn_44, eX3_goOn_46, eX3_goOn_48, eX3_goOn_51, eX3_goOn_53, eX3_goOn_54, eX3_goOn_58, eX3_goOn_60, eX3_goOn_63, eX3_goOn_64, eX3_goOn_65, eX3_goOn_67, eX3_goOn_69, eX3_goOn_71, eX3_goOn_74, eX3_goOn_77, eX3_goOn_78, eX3_goOn_79, eX3_goOn_82, eX3_goOn_85, eX3_goOn_88, eX3_goOn_91, eX3_goOn_94, eX3_goOn_97, eX3_goOn_98, fx_bd_some, Option.toList_some, Option.toList_none, List.nil_append, List.cons_append, fx_uo, fx_ui, Int.toNat_natCast, ↓reduceIte, Int.reduceEq, Int.reduceLT, Int.reduceLE, Int.reduceNeg, c2]
    rw [if_neg (by omega)]
    exact ⟨v, σ, rfl, hI⟩
  | succ d ih =>
    intro r v σ u5 u6 u7 h hI
    have c2 : σ 15 g 5 = br := by rw [hI.1 _ _ _ (by omega)]; exact hX.1.2.1
    obtain ⟨v1, σ1, v5, v6, v7, q1, q2⟩ := go_n Rf Cf nc hB hL hS σ0 hX hH r (by omega) bc 0 v σ u6 u7 (by omega) hI
    obtain ⟨v2, σ2, p1, p2⟩ := ih (r + 1) v1 σ1 v5 v6 v7 (by omega) q2
    rw [eX3_goOn_5]
    simp (disch := omega) only [eX3_goOn_0, eX3_goOn_1, eX3_goOn_2, eX3_goOn_3, eX3_goOn_7, eX3_goOn_8, eX3_goOn_11, eX3_goOn_14, eX3_goOn_15, eX3_goOn_19, eX3_goOn_20, eX3_goOn_23, eX3_goOn_26, eX3_goOn_27, eX3_goOn_29, eX3_goOn_31, eX3_goOn_32, eX3_goOn_34, eX3_goOn_35, eX3_goOn_36, eX3_goOn_39, eX3_goOn_40, eX3_goOn_43, eX3_goOn_44, eX3_goOn_46, eX3_goOn_48, eX3_goOn_51, eX3_goOn_53, eX3_goOn_54, eX3_goOn_58, eX3_goOn_60, eX3_goOn_63, eX3_goOn_64, eX3_goOn_65, eX3_goOn_67, eX3_goOn_69, eX3_goOn_71, eX3_goOn_74, eX3_goOn_77, eX3_goOn_78, eX3_goOn_79, eX3_goOn_82, eX3_goOn_85, eX3_goOn_88, eX3_goOn_91, eX3_goOn_94, eX3_goOn_97, eX3_goOn_98, fx_bd_some, Option.toList_some, Option.toList_none, List.nil_append, List.cons_append, fx_uo, fx_ui, Int.toNat_natCast, ↓reduceIte, Int.reduceEq, Int.reduceLT, Int.reduceLE, Int.reduceNeg, c2]
    rw [if_pos (by omega)]
    exact ⟨v2, σ2, q1.trans p1, p2⟩
theorem sp_goOn (Rf Cf : Nat → Nat) (nc : Nat) {g R C br bc : Nat} {pr pc ph : Nat → Nat} {sh : Nat → Nat → Bool} {L S : Int} (hB : BW R C br bc pr pc ph) (hL : 1 ≤ L ∧ L ≤ 100) (hS : 1 ≤ S ∧ S ≤ 100) (σ0 : fx_M) (hX : SX Rf g R C br bc pr pc L S σ0) (hH : SH g br bc sh σ0) (hI : RI R C br bc pr pc ph sh L S (fun j => σ0 5 0 (sl R C pr pc ph j))) :
    ∃ (v : Int) (σ' : fx_M), fx_Ca (fx_S Rf Cf nc) 34 [.inr (some (3, 0)), .inr (some (15, g)), .inr (some (14, g))] σ0 = some (some (.inl v), σ') ∧ (∀ o k x, o ≠ 5 → σ' o k x = σ0 o k x) ∧ (∀ k x, k ≠ 0 → σ' 5 k x = σ0 5 k x) ∧ RI R C br bc pr pc ph sh L S (fun j => σ' 5 0 (sl R C pr pc ph j)) ∧ (∀ j, j < 144 → isC R C j → σ' 5 0 (sl R C pr pc ph j) ≤ σ0 5 0 (sl R C pr pc ph j)) ∧ (v = 0 ∨ v = 1) ∧ (v = 0 → σ' = σ0) ∧
  ∀ j, j < 144 → isC R C j → sh (pr j) (pc j) = false → ∀ k i, k < 144 → isC R C k → i < 6 → edg R C pr pc ph k i j → σ' 5 0 (sl R C pr pc ph j) ≤ σ0 5 0 (sl R C pr pc ph k) + wt L S i := by
  obtain ⟨v, σ', p1, i1, i2, i3, i4, i5, i6, i7⟩ := go_r Rf Cf nc hB hL hS σ0 hX hH br 0 0 σ0 none none none (by omega) ⟨fun _ _ _ _ => rfl, fun _ _ _ => rfl, hI, fun _ _ _ => Int.le_refl _, Or.inl rfl, fun _ => rfl, fun j hj hjc hs hp => by omega⟩
  refine ⟨v, σ', ?_, i1, i2, i3, i4, i5, i6, fun j hj hjc hs => i7 j hj hjc hs (Or.inl (by have := hB.2.2.2.2.1 j hj hjc; have := hB.2.2.2.1.2; have := hB.2.1.2; omega))⟩
  rw [entX3_goOn]
  simp only [eX3_goOn_0, eX3_goOn_1, eX3_goOn_2, eX3_goOn_3, eX3_goOn_7, eX3_goOn_8, eX3_goOn_11, eX3_goOn_14, eX3_goOn_15, eX3_goOn_19, eX3_goOn_20, eX3_goOn_23, eX3_goOn_26, eX3_goOn_27, eX3_goOn_29, eX3_goOn_31, eX3_goOn_32, eX3_goOn_34, eX3_goOn_35, eX3_goOn_36, eX3_goOn_39, eX3_goOn_40, eX3_goOn_43, eX3_goOn_44, eX3_goOn_46, eX3_goOn_48, eX3_goOn_51, eX3_goOn_53, eX3_goOn_54, eX3_goOn_58, eX3_goOn_60, eX3_goOn_63, eX3_goOn_64, eX3_goOn_65, eX3_goOn_67, eX3_goOn_69, eX3_goOn_71, eX3_goOn_74, eX3_goOn_77, eX3_goOn_78, eX3_goOn_79, eX3_goOn_82, eX3_goOn_85, eX3_goOn_88, eX3_goOn_91, eX3_goOn_94, eX3_goOn_97, eX3_goOn_98]
  exact p1
/-! the seep: all rounds -/
def rk (R C : Nat) (D : Nat → Int) (j : Nat) : Nat := cntP 144 (fun k => decide (isC R C k ∧ D k < D j))
theorem cntP_mono {n : Nat} {P Q : Nat → Bool} (h : ∀ k, k < n → P k = true → Q k = true) : cntP n P ≤ cntP n Q := by
  induction n with
  | zero => exact Nat.le_refl _
  | succ n ih =>
    have := ih (fun k hk => h k (by omega))
    simp only [cntP]
    by_cases q : P n = true
    · rw [if_pos q, if_pos (h n (by omega) q)]; omega
    · rw [if_neg q]; split <;> omega
theorem rk_lt {R C : Nat} {D : Nat → Int} {k j : Nat} (hk : k < 144) (hkc : isC R C k) (h : D k < D j) : rk R C D k < rk R C D j := by
  unfold rk
  rw [cntP_rm (n := 144) (k0 := k) (P := fun x => decide (isC R C x ∧ D x < D j)) hk (by simp only [decide_eq_true_eq]; exact ⟨hkc, h⟩)]
  have := cntP_mono (n := 144) (P := fun x => decide (isC R C x ∧ D x < D k)) (Q := rmP (fun x => decide (isC R C x ∧ D x < D j)) k) (fun x _ hx => by
    simp only [rmP, Bool.and_eq_true, decide_eq_true_eq] at hx ⊢
    exact ⟨⟨hx.1, by omega⟩, fun q => by subst q; omega⟩)
  omega
theorem rk_top {R C : Nat} {D : Nat → Int} {j : Nat} (hj : j < 144) (hjc : isC R C j) : rk R C D j < 144 := by
  have h1 := cntP_mono (n := 144) (P := fun x => decide (isC R C x ∧ D x < D j)) (Q := rmP (fun _ => true) j) (fun x _ hx => by
    simp only [rmP, Bool.true_and, decide_eq_true_eq] at hx ⊢
    intro q; subst q; omega)
  have h2 := cntP_rm (n := 144) (k0 := j) (P := fun _ => true) hj rfl
  have h3 := cntP_le 144 (fun _ => true)
  unfold rk
  omega
theorem into_lp (Rf Cf : Nat → Nat) (nc : Nat) {g R C br bc : Nat} {pr pc ph : Nat → Nat} {sh : Nat → Nat → Bool} {L S : Int} (hB : BW R C br bc pr pc ph) (hL : 1 ≤ L ∧ L ≤ 100) (hS : 1 ≤ S ∧ S ≤ 100) (D : Nat → Int) (hD : Dist R C br bc pr pc ph sh L S D) (v2 v3 : Option fx_V) :
    ∀ (d t : Nat) (σ : fx_M), t + d = 144 → SX Rf g R C br bc pr pc L S σ → SH g br bc sh σ → RI R C br bc pr pc ph sh L S (fun j => σ 5 0 (sl R C pr pc ph j)) → (∀ j, j < 144 → isC R C j → rk R C D j < t → σ 5 0 (sl R C pr pc ph j) = D j) →
    ∃ σ', fx_E (fx_S Rf Cf nc) 31 28 [some (.inr (some (3, 0))), some (.inr (some (12, g))), v2, v3, some (.inl 1), some (.inl (t : Int))] [] σ = some (none, σ') ∧ (∀ o k x, o ≠ 5 → σ' o k x = σ o k x) ∧ (∀ k x, k ≠ 0 → σ' 5 k x = σ 5 k x) ∧ ∀ j, j < 144 → isC R C j → σ' 5 0 (sl R C pr pc ph j) = D j := by
  intro d
  induction d with
  | zero =>
    intro t σ h hX hH hI hr
    obtain rfl : t = 144 := by omega
    rw [eX3_into_28]
    simp (disch := omega) only [eX3_into_0, eX3_into_1, eX3_into_2, eX3_into_5, eX3_into_6, eX3_into_7, eX3_into_10, eX3_into_11, eX3_into_12, eX3_into_15, eX3_into_16, eX3_into_19, eX3_into_22, eX3_into_23, eX3_into_25, eX3_into_26, eX3_into_30, eX3_into_33, eX3_into_35, eX3_into_38, eX3_into_41, eX3_into_42, eX3_into_43, eX3_into_46, eX3_into_47, eX3_into_50, eX3_into_53, eX3_into_55, eX3_into_58, eX3_into_61, fx_bd_some, Option.toList_some, Option.toList_none, List.nil_append, List.cons_append, fx_uo, fx_ui, Int.toNat_natCast, ↓reduceIte, Int.reduceEq, Int.reduceLT, Int.reduceLE, Int.reduceNeg]
    rw [if_neg (by omega)]
    exact ⟨σ, rfl, fun _ _ _ _ => rfl, fun _ _ _ => rfl, fun j hj hjc => hr j hj hjc (rk_top hj hjc)⟩
  | succ d ih =>
    intro t σ h hX hH hI hr
    obtain ⟨v, σ1, e1, i1, i2, i3, i4, i5, i6, i7⟩ := sp_goOn Rf Cf nc hB hL hS σ hX hH hI
    rw [eX3_into_28]
    simp (disch := omega) only [eX3_into_0, eX3_into_1, eX3_into_2, eX3_into_5, eX3_into_6, eX3_into_7, eX3_into_10, eX3_into_11, eX3_into_12, eX3_into_15, eX3_into_16, eX3_into_19, eX3_into_22, eX3_into_23, eX3_into_25, eX3_into_26, eX3_into_30, eX3_into_33, eX3_into_35, eX3_into_38, eX3_into_41, eX3_into_42, eX3_into_43, eX3_into_46, eX3_into_47, eX3_into_50, eX3_into_53, eX3_into_55, eX3_into_58, eX3_into_61, fx_bd_some, Option.toList_some, Option.toList_none, List.nil_append, List.cons_append, fx_uo, fx_ui, Int.toNat_natCast, ↓reduceIte, Int.reduceEq, Int.reduceLT, Int.reduceLE, Int.reduceNeg, e1]
    rw [if_pos (by omega), show (t : Int) + 1 = ((t + 1 : Nat) : Int) by omega]
    rcases i5 with rfl | rfl
    · obtain rfl := i6 rfl
      have hd : Dist R C br bc pr pc ph sh L S (fun j => σ1 5 0 (sl R C pr pc ph j)) := ⟨hI.1, hI.2.1, fun k i j hk hkc hi he hs => i7 j he.1 he.2.1 hs k i hk hkc hi he, hI.2.2⟩
      have hu := Dist_uni hL.1 hS.1 hd hD
      rw [eX3_into_28]
      simp (disch := omega) only [eX3_into_0, eX3_into_1, eX3_into_2, eX3_into_5, eX3_into_6, eX3_into_7, eX3_into_10, eX3_into_11, eX3_into_12, eX3_into_15, eX3_into_16, eX3_into_19, eX3_into_22, eX3_into_23, eX3_into_25, eX3_into_26, eX3_into_30, eX3_into_33, eX3_into_35, eX3_into_38, eX3_into_41, eX3_into_42, eX3_into_43, eX3_into_46, eX3_into_47, eX3_into_50, eX3_into_53, eX3_into_55, eX3_into_58, eX3_into_61, fx_bd_some, Option.toList_some, Option.toList_none, List.nil_append, List.cons_append, fx_uo, fx_ui, Int.toNat_natCast, ↓reduceIte, Int.reduceEq, Int.reduceLT, Int.reduceLE, Int.reduceNeg]
      exact ⟨σ1, rfl, fun _ _ _ _ => rfl, fun _ _ _ => rfl, hu⟩
    · obtain ⟨σ2, p1, p2, p3, p4⟩ := ih (t + 1) σ1 (by omega) (hX.of i1) (fun r n hr hn => by rw [i1 _ _ _ (by omega)]; exact hH r n hr hn) i3 (fun j hj hjc hrk => by
        have lo := Dist_le hL.1 hS.1 (fun j hj hc => (hD.1 j hj hc).2) hD.2.1 hD.2.2.1 (fun j hj hc => (i3.1 j hj hc).1) i3.2.2 j hj hjc
        have hi := i3.1 j hj hjc
        replace lo : D j ≤ σ1 5 0 (sl R C pr pc ph j) := lo
        replace hi : 1 ≤ σ1 5 0 (sl R C pr pc ph j) ∧ σ1 5 0 (sl R C pr pc ph j) ≤ 1000000 := hi
        by_cases hf : D j < 1000000
        · rcases hD.2.2.2 j hj hjc hf with q | ⟨q1, k, i, q2, q3, q4, q5, q6⟩
          · have a1 : σ1 5 0 (sl R C pr pc ph j) = 1 := i3.2.1 j hj hjc q
            rw [a1, hD.2.1 j hj hjc q]
          · have hw := wt_pos hL.1 hS.1 i
            have hlt : D k < D j := by omega
            have := rk_lt q2 q3 hlt
            have a1 := hr k q2 q3 (by omega)
            have a2 := i7 j hj hjc q1 k i q2 q3 q4 q5
            omega
        · omega)
      exact ⟨σ2, p1, fun o k x ho => by rw [p2 o k x ho]; exact i1 o k x ho, fun k x hk => by rw [p3 k x hk]; exact i2 k x hk, p4⟩
theorem sp_into (Rf Cf : Nat → Nat) (nc : Nat) {g R C br bc : Nat} {pr pc ph : Nat → Nat} {sh : Nat → Nat → Bool} {L S : Int} (hB : BW R C br bc pr pc ph) (hL : 1 ≤ L ∧ L ≤ 100) (hS : 1 ≤ S ∧ S ≤ 100) (D : Nat → Int) (hD : Dist R C br bc pr pc ph sh L S D) {σ : fx_M} (hC : CS Rf g R C br bc pr pc σ) (hH : SH g br bc sh σ) :
    ∃ σ', fx_Ca (fx_S Rf Cf nc) 31 [.inr (some (3, 0)), .inr (some (12, g)), .inl L, .inl S] σ = some (none, σ') ∧ (∀ o k x, ¬ (k = 0 ∧ (o = 3 ∨ o = 4 ∨ o = 5)) → σ' o k x = σ o k x) ∧ SX Rf g R C br bc pr pc L S σ' ∧ ∀ j, j < 144 → isC R C j → σ' 5 0 (sl R C pr pc ph j) = D j := by
  obtain ⟨σ1, q1, q2, q3, q4⟩ := sp_begin Rf Cf nc (sh := sh) hB (σ := fx_up (fx_up σ 3 0 2 L) 3 0 3 S) (hC.of (by rw [fx_uo (by omega), fx_uo (by omega)]) (by rw [fx_uo (by omega), fx_uo (by omega)]) (fun p hp => by rw [fx_uo (by omega), fx_uo (by omega)])) (fun r n h1 h2 => by rw [fx_uo (by omega), fx_uo (by omega)]; exact hH r n h1 h2)
  have hX : SX Rf g R C br bc pr pc L S σ1 := ⟨(hC.of (σ' := fx_up (fx_up σ 3 0 2 L) 3 0 3 S) (by rw [fx_uo (by omega), fx_uo (by omega)]) (by rw [fx_uo (by omega), fx_uo (by omega)]) (fun p hp => by rw [fx_uo (by omega), fx_uo (by omega)])).fr q2, q3, by rw [q2 _ _ _ (by omega), fx_ui, if_neg (by omega), fx_ui, if_pos rfl], by rw [q2 _ _ _ (by omega), fx_ui, if_pos rfl]⟩
  have hH1 : SH g br bc sh σ1 := fun r n h1 h2 => by rw [q2 _ _ _ (by omega), fx_uo (by omega), fx_uo (by omega)]; exact hH r n h1 h2
  have hI : RI R C br bc pr pc ph sh L S (fun j => σ1 5 0 (sl R C pr pc ph j)) := by
    refine RI.congr (d := fun j => if srcC R C br bc pr pc ph sh j = true then 1 else 1000000) ⟨fun j hj hjc => ?_, fun j hj hjc hs => ?_, fun j hj hjc hlt => ?_⟩ (fun j hj hjc => q4 j hj hjc)
    · show 1 ≤ (if _ then (1 : Int) else 1000000) ∧ (if _ then (1 : Int) else 1000000) ≤ 1000000
      split <;> omega
    · show (if _ then (1 : Int) else 1000000) = 1
      rw [if_pos hs]
    · replace hlt : (if srcC R C br bc pr pc ph sh j = true then (1 : Int) else 1000000) < 1000000 := hlt
      split at hlt
      · left; assumption
      · omega
  obtain ⟨σ2, p1, p2, p3, p4⟩ := into_lp Rf Cf nc hB hL hS D hD (some (.inl L)) (some (.inl S)) 144 0 σ1 (by omega) hX hH1 hI (fun j hj hjc hrk => by omega)
  refine ⟨σ2, ?_, fun o k x ho => ?_, hX.of p2, p4⟩
  · rw [entX3_into]
    simp only [eX3_into_0, eX3_into_1, eX3_into_2, eX3_into_5, eX3_into_6, eX3_into_7, eX3_into_10, eX3_into_11, eX3_into_12, eX3_into_15, eX3_into_16, eX3_into_19, eX3_into_22, eX3_into_23, eX3_into_25, eX3_into_26, eX3_into_30, eX3_into_33, eX3_into_35, eX3_into_38, eX3_into_41, eX3_into_42, eX3_into_43, eX3_into_46, eX3_into_47, eX3_into_50, eX3_into_53, eX3_into_55, eX3_into_58, eX3_into_61, fx_bd_some, Option.toList_some, Option.toList_none, List.nil_append, List.cons_append, fx_uo, fx_ui, Int.toNat_natCast, ↓reduceIte, Int.reduceEq, Int.reduceLT, Int.reduceLE, Int.reduceNeg, q1]
    exact p1
  · by_cases q : o = 5
    · subst q
      rw [p3 k x (by omega), q2 _ _ _ (by omega)]
      unfold fx_up
      rw [if_neg (by omega), if_neg (by omega)]
    · rw [p2 o k x q, q2 _ _ _ (by omega)]
      unfold fx_up
      rw [if_neg (by omega), if_neg (by omega)]
