/-! the first way -/
theorem wyB_lab {R C m : Nat} {fs : List (Nat × Nat × Nat)} {bo : Bool} {B : Bn} {d : Nat} {w : Wy} (h : (d, w) ∈ wyB R C m fs bo B) : w.1 = fs ∧ w.2.isSome = bo := by
  unfold wyB at h
  cases bo with
  | true =>
    rw [if_pos rfl] at h
    obtain ⟨x, y, a, b, -, -, -, -, -, -, -, e⟩ := bd0_mem.mp h
    have : w = (fs, some (x, y, a, b)) := (Prod.ext_iff.mp e).2
    rw [this]
    exact ⟨rfl, rfl⟩
  | false =>
    rw [if_neg (by simp), List.mem_singleton] at h
    have : w = (fs, none) := (Prod.ext_iff.mp h).2
    rw [this]
    exact ⟨rfl, rfl⟩
theorem mdl_lab {R C m many : Nat} {bo : Bool} {d : Nat} {w : Wy} (hm : many ≤ 2) (h : (d, w) ∈ mdl R C m many bo) : w.1.length = many ∧ w.2.isSome = bo := by
  unfold mdl at h
  split at h
  · obtain ⟨a, b⟩ := wyB_lab h
    rw [a]
    exact ⟨by simp; omega, b⟩
  · split at h
    · obtain ⟨f, -, h⟩ := List.mem_flatMap.mp h
      unfold wy1 at h
      split at h
      · obtain ⟨a, b⟩ := wyB_lab h
        rw [a]
        exact ⟨by simp; omega, b⟩
      · simp at h
    · obtain ⟨f, -, h⟩ := List.mem_flatMap.mp h
      obtain ⟨g, -, h⟩ := List.mem_flatMap.mp h
      unfold wy2 at h
      split at h
      · split at h
        · obtain ⟨a, b⟩ := wyB_lab h
          rw [a]
          exact ⟨by simp; omega, b⟩
        · simp at h
      · simp at h
/-! the reference keeps a way -/
theorem kw_lp (Rf Cf : Nat → Nat) (nc : Nat) {many : Nat} (hm : many ≤ 2) (u2 : Option fx_V) :
    ∀ (d i : Nat) (σ : fx_M), i + d = many → (∀ j, j < i → σ 62 0 (3 * j) = σ 59 0 j ∧ σ 62 0 (3 * j + 1) = σ 60 0 j ∧ σ 62 0 (3 * j + 2) = σ 61 0 j) →
    ∃ σ', fx_E (fx_S Rf Cf nc) 118 7 [some (.inr (some (20, 0))), some (.inl (many : Int)), u2, some (.inl (i : Int))] [] σ = fx_E (fx_S Rf Cf nc) 118 64 [some (.inr (some (20, 0))), some (.inl (many : Int)), u2, some (.inl (many : Int))] [] σ' ∧ (∀ o k x, ¬ (k = 0 ∧ o = 62) → σ' o k x = σ o k x) ∧ ∀ j, j < many → σ' 62 0 (3 * j) = σ 59 0 j ∧ σ' 62 0 (3 * j + 1) = σ 60 0 j ∧ σ' 62 0 (3 * j + 2) = σ 61 0 j := by
  intro d
  induction d with
  | zero =>
    intro i σ hi h
    obtain rfl : i = many := by omega
    refine ⟨σ, ?_, fun _ _ _ _ => rfl, h⟩
    rw [eX7_keepWay_7]
    simp (disch := omega) only [eX7_keepWay_0, eX7_keepWay_1, eX7_keepWay_2, eX7_keepWay_5, eX7_keepWay_6, eX7_keepWay_8, eX7_keepWay_9, eX7_keepWay_12, eX7_keepWay_13, eX7_keepWay_16, eX7_keepWay_17, eX7_keepWay_18, eX7_keepWay_19, eX7_keepWay_20, eX7_keepWay_23, eX7_keepWay_24, eX7_keepWay_25, eX7_keepWay_26, eX7_keepWay_27, eX7_keepWay_30, eX7_keepWay_31, eX7_keepWay_32, eX7_keepWay_33, eX7_keepWay_34, eX7_keepWay_35, eX7_keepWay_36, eX7_keepWay_39, eX7_keepWay_40, eX7_keepWay_41, eX7_keepWay_42, eX7_keepWay_43, eX7_keepWay_46, eX7_keepWay_47, eX7_keepWay_48, eX7_keepWay_49, eX7_keepWay_50, eX7_keepWay_51, eX7_keepWay_52, eX7_keepWay_55, eX7_keepWay_56, eX7_keepWay_57, eX7_keepWay_58, eX7_keepWay_61, eX7_keepWay_69, eX7_keepWay_70, eX7_keepWay_73, eX7_keepWay_75, eX7_keepWay_76, eX7_keepWay_77, eX7_keepWay_80, eX7_keepWay_81, eX7_keepWay_82, eX7_keepWay_85, eX7_keepWay_86, eX7_keepWay_87, eX7_keepWay_88, eX7_keepWay_89, eX7_keepWay_92, eX7_keepWay_93, eX7_keepWay_94, eX7_keepWay_97, eX7_keepWay_98, eX7_keepWay_99, eX7_keepWay_100, eX7_keepWay_101, eX7_keepWay_104, eX7_keepWay_105, eX7_keepWay_106, eX7_keepWay_109, eX7_keepWay_110, eX7_keepWay_111, eX7_keepWay_112, eX7_keepWay_113, eX7_keepWay_116, eX7_keepWay_117, eX7_keepWay_118, eX7_keepWay_121, eX7_keepWay_122, eX7_keepWay_123, eX7_keepWay_124, eX7_keepWay_125, eX7_keepWay_126, eX7_keepWay_129, fx_bd_some, Option.toList_some, Option.toList_none, List.nil_append, List.cons_append, fx_uo, fx_ui, Int.toNat_natCast, ↓reduceIte, Int.reduceEq, Int.reduceLT, Int.reduceLE, Int.reduceNeg]
    rw [if_neg (by omega)]
  | succ d ih =>
    intro i σ hi h
    obtain ⟨τ, hτ⟩ : ∃ τ, τ = fx_up (fx_up (fx_up σ 62 0 (3 * i) (σ 59 0 i)) 62 0 (3 * i + 1) (σ 60 0 i)) 62 0 (3 * i + 2) (σ 61 0 i) := ⟨_, rfl⟩
    have fτ : ∀ o k x, ¬ (k = 0 ∧ o = 62 ∧ 3 * i ≤ x ∧ x < 3 * i + 3) → τ o k x = σ o k x := fun o k x q => by
      rw [hτ]; unfold fx_up
      rw [if_neg (by omega), if_neg (by omega), if_neg (by omega)]
    obtain ⟨σ', a1, a2, a3⟩ := ih (i + 1) τ (by omega) (fun j hj => by
      rw [fτ 59 _ _ (by omega), fτ 60 _ _ (by omega), fτ 61 _ _ (by omega)]
      by_cases hji : j = i
      · subst hji
        rw [hτ]
        refine ⟨?_, ?_, ?_⟩
        · rw [fx_ui, if_neg (by omega), fx_ui, if_neg (by omega), fx_ui, if_pos rfl]
        · rw [fx_ui, if_neg (by omega), fx_ui, if_pos rfl]
        · rw [fx_ui, if_pos rfl]
      · rw [fτ _ _ _ (by omega), fτ _ _ _ (by omega), fτ _ _ _ (by omega)]
        exact h j (by omega))
    refine ⟨σ', ?_, fun o k x q => by rw [a2 o k x q, fτ _ _ _ (by omega)], fun j hj => by
      have := a3 j hj
      rw [fτ 59 _ _ (by omega), fτ 60 _ _ (by omega), fτ 61 _ _ (by omega)] at this
      exact this⟩
    have i1 : (3 * (i : Int)).toNat = 3 * i := by omega
    have i2 : (3 * (i : Int) + 1).toNat = 3 * i + 1 := by omega
    have i3 : (3 * (i : Int) + 2).toNat = 3 * i + 2 := by omega
    rw [eX7_keepWay_7]
    simp (disch := omega) only [eX7_keepWay_0, eX7_keepWay_1, eX7_keepWay_2, eX7_keepWay_5, eX7_keepWay_6, eX7_keepWay_8, eX7_keepWay_9, eX7_keepWay_12, eX7_keepWay_13, eX7_keepWay_16, eX7_keepWay_17, eX7_keepWay_18, eX7_keepWay_19, eX7_keepWay_20, eX7_keepWay_23, eX7_keepWay_24, eX7_keepWay_25, eX7_keepWay_26, eX7_keepWay_27, eX7_keepWay_30, eX7_keepWay_31, eX7_keepWay_32, eX7_keepWay_33, eX7_keepWay_34, eX7_keepWay_35, eX7_keepWay_36, eX7_keepWay_39, eX7_keepWay_40, eX7_keepWay_41, eX7_keepWay_42, eX7_keepWay_43, eX7_keepWay_46, eX7_keepWay_47, eX7_keepWay_48, eX7_keepWay_49, eX7_keepWay_50, eX7_keepWay_51, eX7_keepWay_52, eX7_keepWay_55, eX7_keepWay_56, eX7_keepWay_57, eX7_keepWay_58, eX7_keepWay_61, eX7_keepWay_69, eX7_keepWay_70, eX7_keepWay_73, eX7_keepWay_75, eX7_keepWay_76, eX7_keepWay_77, eX7_keepWay_80, eX7_keepWay_81, eX7_keepWay_82, eX7_keepWay_85, eX7_keepWay_86, eX7_keepWay_87, eX7_keepWay_88, eX7_keepWay_89, eX7_keepWay_92, eX7_keepWay_93, eX7_keepWay_94, eX7_keepWay_97, eX7_keepWay_98, eX7_keepWay_99, eX7_keepWay_100, eX7_keepWay_101, eX7_keepWay_104, eX7_keepWay_105, eX7_keepWay_106, eX7_keepWay_109, eX7_keepWay_110, eX7_keepWay_111, eX7_keepWay_112, eX7_keepWay_113, eX7_keepWay_116, eX7_keepWay_117, eX7_keepWay_118, eX7_keepWay_121, eX7_keepWay_122, eX7_keepWay_123, eX7_keepWay_124, eX7_keepWay_125, eX7_keepWay_126, eX7_keepWay_129, fx_bd_some, Option.toList_some, Option.toList_none, List.nil_append, List.cons_append, fx_uo, fx_ui, Int.toNat_natCast, ↓reduceIte, Int.reduceEq, Int.reduceLT, Int.reduceLE, Int.reduceNeg, i1, i2, i3, fx_uo (show ¬ 60 = 62 by omega), fx_uo (show ¬ 61 = 62 by omega)]
    rw [if_pos (by omega), show (i : Int) + 1 = ((i + 1 : Nat) : Int) by omega, ← hτ]
    exact a1
def KW (σ σ' : fx_M) (w : Wy) : Prop := (∀ o k x, ¬ (k = 0 ∧ (o = 62 ∨ o = 64 ∨ (o = 20 ∧ (x = 33 ∨ x = 35 ∨ x = 36)))) → σ' o k x = σ o k x) ∧ σ' 20 0 33 = (w.1.length : Int) ∧ (∀ i f, w.1[i]? = some f → σ' 62 0 (3 * i) = (f.1 : Int) ∧ σ' 62 0 (3 * i + 1) = (f.2.1 : Int) ∧ σ' 62 0 (3 * i + 2) = (f.2.2 : Int)) ∧ σ' 20 0 36 = 1 ∧ (w.2 = none → σ' 20 0 35 = 0) ∧ ∀ q, w.2 = some q → σ' 20 0 35 = 1 ∧ ∀ j, j < 4 → σ' 64 0 j = bvv q j
theorem sp_keepWay (Rf Cf : Nat → Nat) (nc : Nat) {σ : fx_M} {w : Wy} (hF : MF σ w) (hm : w.1.length ≤ 2) : ∃ σ', fx_Ca (fx_S Rf Cf nc) 118 [.inr (some (20, 0)), .inl (w.1.length : Int), .inl (if w.2.isSome = true then 1 else 0)] σ = some (none, σ') ∧ KW σ σ' w := by
  obtain ⟨many, hmany⟩ : ∃ many, many = w.1.length := ⟨_, rfl⟩
  rw [← hmany] at hm ⊢
  obtain ⟨τ, hτ⟩ : ∃ τ, τ = fx_up σ 20 0 33 (many : Int) := ⟨_, rfl⟩
  have fτ : ∀ o k x, ¬ (k = 0 ∧ o = 20 ∧ x = 33) → τ o k x = σ o k x := fun o k x q => by
    rw [hτ]; unfold fx_up
    rw [if_neg (by omega)]
  have t33 : τ 20 0 33 = (many : Int) := by rw [hτ, fx_ui, if_pos rfl]
  obtain ⟨σ1, a1, a2, a3⟩ := kw_lp Rf Cf nc hm (some (.inl (if w.2.isSome = true then 1 else 0))) many 0 τ (by omega) (fun j hj => by omega)
  have f1 : ∀ i f, w.1[i]? = some f → σ1 62 0 (3 * i) = (f.1 : Int) ∧ σ1 62 0 (3 * i + 1) = (f.2.1 : Int) ∧ σ1 62 0 (3 * i + 2) = (f.2.2 : Int) := fun i f hf => by
    have hi : i < many := by
      rw [hmany]
      exact (List.getElem?_eq_some_iff.mp hf).1
    obtain ⟨b1, b2, b3⟩ := a3 i hi
    obtain ⟨c1, c2, c3⟩ := hF.1 i f hf
    rw [b1, b2, b3, fτ _ _ _ (by omega), fτ _ _ _ (by omega), fτ _ _ _ (by omega)]
    exact ⟨c1, c2, c3⟩
  cases hw : w.2 with
  | none =>
    rw [hw] at a1
    refine ⟨fx_up (fx_up σ1 20 0 35 0) 20 0 36 1, ?_, fun o k x q => ?_, ?_, fun i f hf => ?_, ?_, fun _ => ?_, fun q hq => ?_⟩
    · rw [entX7_keepWay]
      simp (disch := omega) only [eX7_keepWay_0, eX7_keepWay_1, eX7_keepWay_2, eX7_keepWay_5, eX7_keepWay_6, eX7_keepWay_8, eX7_keepWay_9, eX7_keepWay_12, eX7_keepWay_13, eX7_keepWay_16, eX7_keepWay_17, eX7_keepWay_18, eX7_keepWay_19, eX7_keepWay_20, eX7_keepWay_23, eX7_keepWay_24, eX7_keepWay_25, eX7_keepWay_26, eX7_keepWay_27, eX7_keepWay_30, eX7_keepWay_31, eX7_keepWay_32, eX7_keepWay_33, eX7_keepWay_34, eX7_keepWay_35, eX7_keepWay_36, eX7_keepWay_39, eX7_keepWay_40, eX7_keepWay_41, eX7_keepWay_42, eX7_keepWay_43, eX7_keepWay_46, eX7_keepWay_47, eX7_keepWay_48, eX7_keepWay_49, eX7_keepWay_50, eX7_keepWay_51, eX7_keepWay_52, eX7_keepWay_55, eX7_keepWay_56, eX7_keepWay_57, eX7_keepWay_58, eX7_keepWay_61, eX7_keepWay_69, eX7_keepWay_70, eX7_keepWay_73, eX7_keepWay_75, eX7_keepWay_76, eX7_keepWay_77, eX7_keepWay_80, eX7_keepWay_81, eX7_keepWay_82, eX7_keepWay_85, eX7_keepWay_86, eX7_keepWay_87, eX7_keepWay_88, eX7_keepWay_89, eX7_keepWay_92, eX7_keepWay_93, eX7_keepWay_94, eX7_keepWay_97, eX7_keepWay_98, eX7_keepWay_99, eX7_keepWay_100, eX7_keepWay_101, eX7_keepWay_104, eX7_keepWay_105, eX7_keepWay_106, eX7_keepWay_109, eX7_keepWay_110, eX7_keepWay_111, eX7_keepWay_112, eX7_keepWay_113, eX7_keepWay_116, eX7_keepWay_117, eX7_keepWay_118, eX7_keepWay_121, eX7_keepWay_122, eX7_keepWay_123, eX7_keepWay_124, eX7_keepWay_125, eX7_keepWay_126, eX7_keepWay_129, ← hτ, Option.isSome_none, Bool.false_eq_true, if_false] at a1 ⊢
      refine a1.trans ?_
      simp (disch := omega) only [eX7_keepWay_0, eX7_keepWay_1, eX7_keepWay_2, eX7_keepWay_5, eX7_keepWay_6, eX7_keepWay_8, eX7_keepWay_9, eX7_keepWay_12, eX7_keepWay_13, eX7_keepWay_16, eX7_keepWay_17, eX7_keepWay_18, eX7_keepWay_19, eX7_keepWay_20, eX7_keepWay_23, eX7_keepWay_24, eX7_keepWay_25, eX7_keepWay_26, eX7_keepWay_27, eX7_keepWay_30, eX7_keepWay_31, eX7_keepWay_32, eX7_keepWay_33, eX7_keepWay_34, eX7_keepWay_35, eX7_keepWay_36, eX7_keepWay_39, eX7_keepWay_40, eX7_keepWay_41, eX7_keepWay_42, eX7_keepWay_43, eX7_keepWay_46, eX7_keepWay_47, eX7_keepWay_48, eX7_keepWay_49, eX7_keepWay_50, eX7_keepWay_51, eX7_keepWay_52, eX7_keepWay_55, eX7_keepWay_56, eX7_keepWay_57, eX7_keepWay_58, eX7_keepWay_61, eX7_keepWay_64, eX7_keepWay_65, eX7_keepWay_66, eX7_keepWay_69, eX7_keepWay_70, eX7_keepWay_73, eX7_keepWay_75, eX7_keepWay_76, eX7_keepWay_77, eX7_keepWay_80, eX7_keepWay_81, eX7_keepWay_82, eX7_keepWay_85, eX7_keepWay_86, eX7_keepWay_87, eX7_keepWay_88, eX7_keepWay_89, eX7_keepWay_92, eX7_keepWay_93, eX7_keepWay_94, eX7_keepWay_97, eX7_keepWay_98, eX7_keepWay_99, eX7_keepWay_100, eX7_keepWay_101, eX7_keepWay_104, eX7_keepWay_105, eX7_keepWay_106, eX7_keepWay_109, eX7_keepWay_110, eX7_keepWay_111, eX7_keepWay_112, eX7_keepWay_113, eX7_keepWay_116, eX7_keepWay_117, eX7_keepWay_118, eX7_keepWay_121, eX7_keepWay_122, eX7_keepWay_123, eX7_keepWay_124, eX7_keepWay_125, eX7_keepWay_126, eX7_keepWay_129, fx_bd_some, Option.toList_some, Option.toList_none, List.nil_append, List.cons_append, fx_uo, fx_ui, Int.toNat_natCast, ↓reduceIte, Int.reduceEq, Int.reduceLT, Int.reduceLE, Int.reduceNeg]
    · unfold fx_up
      rw [if_neg (by omega), if_neg (by omega), a2 _ _ _ (by omega), fτ _ _ _ (by omega)]
    · rw [fx_ui, if_neg (by omega), fx_ui, if_neg (by omega), a2 _ _ _ (by omega), t33, hmany]
    · rw [fx_uo (by omega), fx_uo (by omega), fx_uo (by omega), fx_uo (by omega), fx_uo (by omega), fx_uo (by omega)]
      exact f1 i f hf
    · rw [fx_ui, if_pos rfl]
    · rw [fx_ui, if_neg (by omega), fx_ui, if_pos rfl]
    · rw [hw] at hq; cases hq
  | some q0 =>
    rw [hw] at a1
    obtain ⟨g1, g2, g3, g4⟩ := hF.2 q0 hw
    have e1 : σ1 43 0 36 = (q0.1 : Int) := by rw [a2 _ _ _ (by omega), fτ _ _ _ (by omega)]; exact g1
    have e2 : σ1 44 0 36 = (q0.2.1 : Int) := by rw [a2 _ _ _ (by omega), fτ _ _ _ (by omega)]; exact g2
    have e3 : σ1 45 0 36 = (q0.2.2.1 : Int) := by rw [a2 _ _ _ (by omega), fτ _ _ _ (by omega)]; exact g3
    have e4 : σ1 46 0 36 = (q0.2.2.2 : Int) := by rw [a2 _ _ _ (by omega), fτ _ _ _ (by omega)]; exact g4
    obtain ⟨ρ, hρ⟩ : ∃ ρ, ρ = fx_up (fx_up (fx_up (fx_up (fx_up (fx_up σ1 20 0 35 1) 64 0 0 q0.1) 64 0 1 q0.2.1) 64 0 2 q0.2.2.1) 64 0 3 q0.2.2.2) 20 0 36 1 := ⟨_, rfl⟩
    have fρ : ∀ o k x, ¬ (k = 0 ∧ (o = 64 ∨ (o = 20 ∧ (x = 35 ∨ x = 36)))) → ρ o k x = σ1 o k x := fun o k x q => by
      rw [hρ]; unfold fx_up
      rw [if_neg (by omega), if_neg (by omega), if_neg (by omega), if_neg (by omega), if_neg (by omega), if_neg (by omega)]
    refine ⟨ρ, ?_, fun o k x q => ?_, ?_, fun i f hf => ?_, ?_, fun q => ?_, fun q hq => ⟨?_, fun j hj => ?_⟩⟩
    · rw [entX7_keepWay]
      simp (disch := omega) only [eX7_keepWay_0, eX7_keepWay_1, eX7_keepWay_2, eX7_keepWay_5, eX7_keepWay_6, eX7_keepWay_8, eX7_keepWay_9, eX7_keepWay_12, eX7_keepWay_13, eX7_keepWay_16, eX7_keepWay_17, eX7_keepWay_18, eX7_keepWay_19, eX7_keepWay_20, eX7_keepWay_23, eX7_keepWay_24, eX7_keepWay_25, eX7_keepWay_26, eX7_keepWay_27, eX7_keepWay_30, eX7_keepWay_31, eX7_keepWay_32, eX7_keepWay_33, eX7_keepWay_34, eX7_keepWay_35, eX7_keepWay_36, eX7_keepWay_39, eX7_keepWay_40, eX7_keepWay_41, eX7_keepWay_42, eX7_keepWay_43, eX7_keepWay_46, eX7_keepWay_47, eX7_keepWay_48, eX7_keepWay_49, eX7_keepWay_50, eX7_keepWay_51, eX7_keepWay_52, eX7_keepWay_55, eX7_keepWay_56, eX7_keepWay_57, eX7_keepWay_58, eX7_keepWay_61, eX7_keepWay_69, eX7_keepWay_70, eX7_keepWay_73, eX7_keepWay_75, eX7_keepWay_76, eX7_keepWay_77, eX7_keepWay_80, eX7_keepWay_81, eX7_keepWay_82, eX7_keepWay_85, eX7_keepWay_86, eX7_keepWay_87, eX7_keepWay_88, eX7_keepWay_89, eX7_keepWay_92, eX7_keepWay_93, eX7_keepWay_94, eX7_keepWay_97, eX7_keepWay_98, eX7_keepWay_99, eX7_keepWay_100, eX7_keepWay_101, eX7_keepWay_104, eX7_keepWay_105, eX7_keepWay_106, eX7_keepWay_109, eX7_keepWay_110, eX7_keepWay_111, eX7_keepWay_112, eX7_keepWay_113, eX7_keepWay_116, eX7_keepWay_117, eX7_keepWay_118, eX7_keepWay_121, eX7_keepWay_122, eX7_keepWay_123, eX7_keepWay_124, eX7_keepWay_125, eX7_keepWay_126, eX7_keepWay_129, ← hτ, Option.isSome_some, if_true] at a1 ⊢
      refine a1.trans ?_
      simp (disch := omega) only [eX7_keepWay_0, eX7_keepWay_1, eX7_keepWay_2, eX7_keepWay_5, eX7_keepWay_6, eX7_keepWay_8, eX7_keepWay_9, eX7_keepWay_12, eX7_keepWay_13, eX7_keepWay_16, eX7_keepWay_17, eX7_keepWay_18, eX7_keepWay_19, eX7_keepWay_20, eX7_keepWay_23, eX7_keepWay_24, eX7_keepWay_25, eX7_keepWay_26, eX7_keepWay_27, eX7_keepWay_30, eX7_keepWay_31, eX7_keepWay_32, eX7_keepWay_33, eX7_keepWay_34, eX7_keepWay_35, eX7_keepWay_36, eX7_keepWay_39, eX7_keepWay_40, eX7_keepWay_41, eX7_keepWay_42, eX7_keepWay_43, eX7_keepWay_46, eX7_keepWay_47, eX7_keepWay_48, eX7_keepWay_49, eX7_keepWay_50, eX7_keepWay_51, eX7_keepWay_52, eX7_keepWay_55, eX7_keepWay_56, eX7_keepWay_57, eX7_keepWay_58, eX7_keepWay_61, eX7_keepWay_64, eX7_keepWay_65, eX7_keepWay_66, eX7_keepWay_69, eX7_keepWay_70, eX7_keepWay_73, eX7_keepWay_75, eX7_keepWay_76, eX7_keepWay_77, eX7_keepWay_80, eX7_keepWay_81, eX7_keepWay_82, eX7_keepWay_85, eX7_keepWay_86, eX7_keepWay_87, eX7_keepWay_88, eX7_keepWay_89, eX7_keepWay_92, eX7_keepWay_93, eX7_keepWay_94, eX7_keepWay_97, eX7_keepWay_98, eX7_keepWay_99, eX7_keepWay_100, eX7_keepWay_101, eX7_keepWay_104, eX7_keepWay_105, eX7_keepWay_106, eX7_keepWay_109, eX7_keepWay_110, eX7_keepWay_111, eX7_keepWay_112, eX7_keepWay_113, eX7_keepWay_116, eX7_keepWay_117, eX7_keepWay_118, eX7_keepWay_121, eX7_keepWay_122, eX7_keepWay_123, eX7_keepWay_124, eX7_keepWay_125, eX7_keepWay_126, eX7_keepWay_129, fx_bd_some, Option.toList_some, Option.toList_none, List.nil_append, List.cons_append, fx_uo, fx_ui, Int.toNat_natCast, ↓reduceIte, Int.reduceEq, Int.reduceLT, Int.reduceLE, Int.reduceNeg, Int.reduceToNat, fx_uo (show ¬ 43 = 20 by omega), fx_uo (show ¬ 44 = 64 by omega), fx_uo (show ¬ 44 = 20 by omega), fx_uo (show ¬ 45 = 64 by omega), fx_uo (show ¬ 45 = 20 by omega), fx_uo (show ¬ 46 = 64 by omega), fx_uo (show ¬ 46 = 20 by omega), e1, e2, e3, e4, ← hρ]
    · rw [fρ _ _ _ (by omega), a2 _ _ _ (by omega), fτ _ _ _ (by omega)]
    · rw [fρ _ _ _ (by omega), a2 _ _ _ (by omega), t33, hmany]
    · rw [fρ _ _ _ (by omega), fρ _ _ _ (by omega), fρ _ _ _ (by omega)]
      exact f1 i f hf
    · rw [hρ, fx_ui, if_pos rfl]
    · rw [hw] at q; cases q
    · rw [hρ, fx_ui, if_neg (by omega), fx_uo (by omega), fx_uo (by omega), fx_uo (by omega), fx_uo (by omega), fx_ui, if_pos rfl]
    · obtain rfl : q0 = q := by rw [hw] at hq; simpa using hq
      rcases (show j = 0 ∨ j = 1 ∨ j = 2 ∨ j = 3 by omega) with rfl | rfl | rfl | rfl
      all_goals
        rw [hρ]
        simp [fx_up, bvv]
/-! the reference finds a way -/
def Fw (kp : Bool) (σ : fx_M) (w : Wy) (X : Option fx_R) : Prop := ∃ σ', X = some (some (.inl (w.1.length : Int)), σ') ∧ (kp = false → σ' = σ) ∧ (kp = true → KW σ σ' w)
def Kw (σ : fx_M) (X : Option fx_R) : Prop := X = some (some (.inl (-8)), σ)
theorem fw_one (Rf Cf : Nat → Nat) (nc : Nat) {R C m l many b : Nat} {mi st : Int} {kp : Bool} {σ : fx_M} (hK : MK R C m mi st σ) (hm : many ≤ 2) (hb : b < 2) (hl0 : 0 < l) (hl : l ≤ 1000000) (h39 : σ 20 0 39 = (l : Int)) :
    MRes 3 σ l (mdl R C m many (decide (b = 1))) (fx_E (fx_S Rf Cf nc) 124 15 [some (.inr (some (20, 0))), some (.inl (if kp then 1 else 0)), some (.inl (many : Int)), some (.inl (b : Int))] [] σ) (Fw kp) (fun σ' X => X = fx_E (fx_S Rf Cf nc) 124 15 [some (.inr (some (20, 0))), some (.inl (if kp then 1 else 0)), some (.inl (many : Int)), some (.inl ((b + 1 : Nat) : Int))] [] σ') := by
  have hr := sp_goFolds Rf Cf nc (bo := decide (b = 1)) hK hm hl0 hl h39
  have bi : ∀ (c : Int), c = (b : Int) → (if c = 1 then (1 : Int) else 0) = if decide (b = 1) = true then 1 else 0 := fun c hc => by
    subst hc
    by_cases q : b = 1
    · subst q; rfl
    · rw [if_neg (by omega), if_neg (by simpa using q)]
  obtain ⟨X, hX⟩ : ∃ X, X = fx_Ca (fx_S Rf Cf nc) 121 [.inr (some (20, 0)), .inl 0, .inl (many : Int), .inl (if decide (b = 1) = true then 1 else 0)] σ := ⟨_, rfl⟩
  rw [← hX] at hr
  have eE : fx_E (fx_S Rf Cf nc) 124 15 [some (.inr (some (20, 0))), some (.inl (if kp then 1 else 0)), some (.inl (many : Int)), some (.inl (b : Int))] [] σ = fx_bd X (fun v σ' => fx_E (fx_S Rf Cf nc) 124 36 [some (.inr (some (20, 0))), some (.inl (if kp then 1 else 0)), some (.inl (many : Int)), some (.inl (b : Int))] (v.toList ++ []) σ') := by
    rw [hX]
    rw [eX7_findWay_15]
    rcases (show b = 0 ∨ b = 1 by omega) with rfl | rfl
    · simp (disch := omega) only [eX7_findWay_0, eX7_findWay_1, eX7_findWay_3, eX7_findWay_6, eX7_findWay_7, eX7_findWay_9, eX7_findWay_10, eX7_findWay_13, eX7_findWay_14, eX7_findWay_16, eX7_findWay_17, eX7_findWay_20, eX7_findWay_21, eX7_findWay_22, eX7_findWay_23, eX7_findWay_24, eX7_findWay_25, eX7_findWay_28, eX7_findWay_29, eX7_findWay_32, eX7_findWay_33, eX7_findWay_39, eX7_findWay_40, eX7_findWay_43, eX7_findWay_44, eX7_findWay_45, eX7_findWay_46, eX7_findWay_47, eX7_findWay_50, eX7_findWay_51, eX7_findWay_54, eX7_findWay_55, eX7_findWay_58, eX7_findWay_59, eX7_findWay_60, eX7_findWay_63, eX7_findWay_66, eX7_findWay_69, eX7_findWay_72, eX7_findWay_74, ic0, ↓reduceIte, Int.reduceEq, Int.reduceLT]
      simp
    · simp (disch := omega) only [eX7_findWay_0, eX7_findWay_1, eX7_findWay_3, eX7_findWay_6, eX7_findWay_7, eX7_findWay_9, eX7_findWay_10, eX7_findWay_13, eX7_findWay_14, eX7_findWay_16, eX7_findWay_17, eX7_findWay_20, eX7_findWay_21, eX7_findWay_22, eX7_findWay_23, eX7_findWay_24, eX7_findWay_25, eX7_findWay_28, eX7_findWay_29, eX7_findWay_32, eX7_findWay_33, eX7_findWay_39, eX7_findWay_40, eX7_findWay_43, eX7_findWay_44, eX7_findWay_45, eX7_findWay_46, eX7_findWay_47, eX7_findWay_50, eX7_findWay_51, eX7_findWay_54, eX7_findWay_55, eX7_findWay_58, eX7_findWay_59, eX7_findWay_60, eX7_findWay_63, eX7_findWay_66, eX7_findWay_69, eX7_findWay_72, eX7_findWay_74, ic1, ↓reduceIte, Int.reduceEq, Int.reduceLT]
      simp
  refine hr.mp (fun σ' w hw hM q => ?_) (fun σ' q => ?_)
  · obtain ⟨q1, q2⟩ := q
    obtain ⟨y1, y2⟩ := mdl_lab hm ((gsc_some _ l hl0).2 w hw)
    cases kp with
    | false =>
      refine ⟨σ', ?_, fun _ => rfl, fun z => by cases z⟩
      rw [eE, q1, y1]
      simp (disch := omega) only [eX7_findWay_0, eX7_findWay_1, eX7_findWay_3, eX7_findWay_6, eX7_findWay_7, eX7_findWay_9, eX7_findWay_10, eX7_findWay_13, eX7_findWay_14, eX7_findWay_16, eX7_findWay_17, eX7_findWay_20, eX7_findWay_21, eX7_findWay_22, eX7_findWay_23, eX7_findWay_24, eX7_findWay_25, eX7_findWay_28, eX7_findWay_29, eX7_findWay_32, eX7_findWay_33, eX7_findWay_36, eX7_findWay_39, eX7_findWay_40, eX7_findWay_43, eX7_findWay_44, eX7_findWay_45, eX7_findWay_46, eX7_findWay_47, eX7_findWay_50, eX7_findWay_51, eX7_findWay_54, eX7_findWay_55, eX7_findWay_58, eX7_findWay_59, eX7_findWay_60, eX7_findWay_63, eX7_findWay_66, eX7_findWay_69, eX7_findWay_72, eX7_findWay_74, fx_bd_some, Option.toList_some, Option.toList_none, List.nil_append, List.cons_append, fx_uo, fx_ui, Int.toNat_natCast, ↓reduceIte, Int.reduceEq, Int.reduceLT, Int.reduceLE, Int.reduceNeg, Bool.false_eq_true, if_false]
    | true =>
      obtain ⟨σ2, k1, k2⟩ := sp_keepWay Rf Cf nc q2 (by omega)
      refine ⟨σ2, ?_, fun z => (by cases z), fun _ => k2⟩
      rw [y1, y2] at k1
      rw [eE, q1, y1]
      rcases (show b = 0 ∨ b = 1 by omega) with rfl | rfl
      · simp at k1
        simp (disch := omega) only [eX7_findWay_0, eX7_findWay_1, eX7_findWay_3, eX7_findWay_6, eX7_findWay_7, eX7_findWay_9, eX7_findWay_10, eX7_findWay_13, eX7_findWay_14, eX7_findWay_16, eX7_findWay_17, eX7_findWay_20, eX7_findWay_21, eX7_findWay_22, eX7_findWay_23, eX7_findWay_24, eX7_findWay_25, eX7_findWay_28, eX7_findWay_29, eX7_findWay_32, eX7_findWay_33, eX7_findWay_36, eX7_findWay_39, eX7_findWay_40, eX7_findWay_43, eX7_findWay_44, eX7_findWay_45, eX7_findWay_46, eX7_findWay_47, eX7_findWay_50, eX7_findWay_51, eX7_findWay_54, eX7_findWay_55, eX7_findWay_58, eX7_findWay_59, eX7_findWay_60, eX7_findWay_63, eX7_findWay_66, eX7_findWay_69, eX7_findWay_72, eX7_findWay_74, fx_bd_some, Option.toList_some, Option.toList_none, List.nil_append, List.cons_append, fx_uo, fx_ui, Int.toNat_natCast, ↓reduceIte, Int.reduceEq, Int.reduceLT, Int.reduceLE, Int.reduceNeg, ic0, k1]
      · simp at k1
        simp (disch := omega) only [eX7_findWay_0, eX7_findWay_1, eX7_findWay_3, eX7_findWay_6, eX7_findWay_7, eX7_findWay_9, eX7_findWay_10, eX7_findWay_13, eX7_findWay_14, eX7_findWay_16, eX7_findWay_17, eX7_findWay_20, eX7_findWay_21, eX7_findWay_22, eX7_findWay_23, eX7_findWay_24, eX7_findWay_25, eX7_findWay_28, eX7_findWay_29, eX7_findWay_32, eX7_findWay_33, eX7_findWay_36, eX7_findWay_39, eX7_findWay_40, eX7_findWay_43, eX7_findWay_44, eX7_findWay_45, eX7_findWay_46, eX7_findWay_47, eX7_findWay_50, eX7_findWay_51, eX7_findWay_54, eX7_findWay_55, eX7_findWay_58, eX7_findWay_59, eX7_findWay_60, eX7_findWay_63, eX7_findWay_66, eX7_findWay_69, eX7_findWay_72, eX7_findWay_74, fx_bd_some, Option.toList_some, Option.toList_none, List.nil_append, List.cons_append, fx_uo, fx_ui, Int.toNat_natCast, ↓reduceIte, Int.reduceEq, Int.reduceLT, Int.reduceLE, Int.reduceNeg, ic1, k1]
  · show _ = _
    unfold K0 at q
    rw [eE, q]
    simp (disch := omega) only [eX7_findWay_0, eX7_findWay_1, eX7_findWay_3, eX7_findWay_6, eX7_findWay_7, eX7_findWay_9, eX7_findWay_10, eX7_findWay_13, eX7_findWay_14, eX7_findWay_16, eX7_findWay_17, eX7_findWay_20, eX7_findWay_21, eX7_findWay_22, eX7_findWay_23, eX7_findWay_24, eX7_findWay_25, eX7_findWay_28, eX7_findWay_29, eX7_findWay_32, eX7_findWay_33, eX7_findWay_36, eX7_findWay_39, eX7_findWay_40, eX7_findWay_43, eX7_findWay_44, eX7_findWay_45, eX7_findWay_46, eX7_findWay_47, eX7_findWay_50, eX7_findWay_51, eX7_findWay_54, eX7_findWay_55, eX7_findWay_58, eX7_findWay_59, eX7_findWay_60, eX7_findWay_63, eX7_findWay_66, eX7_findWay_69, eX7_findWay_72, eX7_findWay_74, fx_bd_some, Option.toList_some, Option.toList_none, List.nil_append, List.cons_append, fx_uo, fx_ui, Int.toNat_natCast, ↓reduceIte, Int.reduceEq, Int.reduceLT, Int.reduceLE, Int.reduceNeg]
    rw [show (b : Int) + 1 = ((b + 1 : Nat) : Int) by omega]
theorem fw_two (Rf Cf : Nat → Nat) (nc : Nat) {R C m l many : Nat} {mi st : Int} {kp : Bool} {σ : fx_M} {B : List (Nat × Wy)} {Kq : fx_M → Option fx_R → Prop} (hK : MK R C m mi st σ) (hm : many ≤ 2) (hl0 : 0 < l) (hl : l ≤ 1000000) (h39 : σ 20 0 39 = (l : Int)) (u3 : Option fx_V)
    (hn : ∀ (σ' : fx_M) (l' : Nat) (v3 : Option fx_V), MK R C m mi st σ' → 0 < l' → l' ≤ 1000000 → σ' 20 0 39 = (l' : Int) → MRes 3 σ' l' B (fx_E (fx_S Rf Cf nc) 124 8 [some (.inr (some (20, 0))), some (.inl (if kp then 1 else 0)), some (.inl ((many + 1 : Nat) : Int)), v3] [] σ') (Fw kp) Kq) :
    MRes 3 σ l (mdl R C m many false ++ (mdl R C m many true ++ B)) (fx_E (fx_S Rf Cf nc) 124 8 [some (.inr (some (20, 0))), some (.inl (if kp then 1 else 0)), some (.inl (many : Int)), u3] [] σ) (Fw kp) Kq := by
  have e : fx_E (fx_S Rf Cf nc) 124 8 [some (.inr (some (20, 0))), some (.inl (if kp then 1 else 0)), some (.inl (many : Int)), u3] [] σ = fx_E (fx_S Rf Cf nc) 124 15 [some (.inr (some (20, 0))), some (.inl (if kp then 1 else 0)), some (.inl (many : Int)), some (.inl ((0 : Nat) : Int))] [] σ := by
    rw [eX7_findWay_8]
    simp (disch := omega) only [eX7_findWay_0, eX7_findWay_1, eX7_findWay_3, eX7_findWay_6, eX7_findWay_7, eX7_findWay_9, eX7_findWay_10, eX7_findWay_13, eX7_findWay_14, eX7_findWay_16, eX7_findWay_17, eX7_findWay_20, eX7_findWay_21, eX7_findWay_22, eX7_findWay_23, eX7_findWay_24, eX7_findWay_25, eX7_findWay_28, eX7_findWay_29, eX7_findWay_32, eX7_findWay_33, eX7_findWay_36, eX7_findWay_39, eX7_findWay_40, eX7_findWay_43, eX7_findWay_44, eX7_findWay_45, eX7_findWay_46, eX7_findWay_47, eX7_findWay_50, eX7_findWay_51, eX7_findWay_54, eX7_findWay_55, eX7_findWay_58, eX7_findWay_59, eX7_findWay_60, eX7_findWay_63, eX7_findWay_66, eX7_findWay_69, eX7_findWay_72, eX7_findWay_74, fx_bd_some, Option.toList_some, Option.toList_none, List.nil_append, List.cons_append, fx_uo, fx_ui, Int.toNat_natCast, ↓reduceIte, Int.reduceEq, Int.reduceLT, Int.reduceLE, Int.reduceNeg]
    try repeat (first | rw [if_pos (by omega)] | rw [if_neg (by omega)])
    rfl
  rw [e]
  refine MRes.bind hl0 (fw_one Rf Cf nc (b := 0) hK hm (by omega) hl0 hl h39) (fun σ' l' h1 h2 h3 h4 => ?_)
  rw [h4]
  refine MRes.bind h2 (fw_one Rf Cf nc (b := 1) (hK.mt h1) hm (by omega) h2 (by omega) h1.2) (fun σ2 l2 g1 g2 g3 g4 => ?_)
  have e2 : fx_E (fx_S Rf Cf nc) 124 15 [some (.inr (some (20, 0))), some (.inl (if kp then 1 else 0)), some (.inl (many : Int)), some (.inl ((1 + 1 : Nat) : Int))] [] σ2 = fx_E (fx_S Rf Cf nc) 124 8 [some (.inr (some (20, 0))), some (.inl (if kp then 1 else 0)), some (.inl ((many + 1 : Nat) : Int)), some (.inl ((1 + 1 : Nat) : Int))] [] σ2 := by
    rw [eX7_findWay_15]
    simp (disch := omega) only [eX7_findWay_0, eX7_findWay_1, eX7_findWay_3, eX7_findWay_6, eX7_findWay_7, eX7_findWay_9, eX7_findWay_10, eX7_findWay_13, eX7_findWay_14, eX7_findWay_16, eX7_findWay_17, eX7_findWay_20, eX7_findWay_21, eX7_findWay_22, eX7_findWay_23, eX7_findWay_24, eX7_findWay_25, eX7_findWay_28, eX7_findWay_29, eX7_findWay_32, eX7_findWay_33, eX7_findWay_36, eX7_findWay_39, eX7_findWay_40, eX7_findWay_43, eX7_findWay_44, eX7_findWay_45, eX7_findWay_46, eX7_findWay_47, eX7_findWay_50, eX7_findWay_51, eX7_findWay_54, eX7_findWay_55, eX7_findWay_58, eX7_findWay_59, eX7_findWay_60, eX7_findWay_63, eX7_findWay_66, eX7_findWay_69, eX7_findWay_72, eX7_findWay_74, fx_bd_some, Option.toList_some, Option.toList_none, List.nil_append, List.cons_append, fx_uo, fx_ui, Int.toNat_natCast, ↓reduceIte, Int.reduceEq, Int.reduceLT, Int.reduceLE, Int.reduceNeg]
    rw [if_neg (by omega), show (many : Int) + 1 = ((many + 1 : Nat) : Int) by omega]
  rw [g4, e2]
  exact hn σ2 l2 _ ((hK.mt h1).mt g1) g2 (by omega) g1.2
def mdls (R C m : Nat) : List (Nat × Wy) := mdl R C m 0 false ++ (mdl R C m 0 true ++ (mdl R C m 1 false ++ (mdl R C m 1 true ++ (mdl R C m 2 false ++ (mdl R C m 2 true ++ [])))))
theorem sp_findWay (Rf Cf : Nat → Nat) (nc : Nat) {R C m : Nat} {mi st : Int} (kp : Bool) {σ : fx_M} (hK : MK R C m mi st σ) : MRes 3 (fx_up σ 20 0 39 1000000) 1000000 (mdls R C m) (fx_Ca (fx_S Rf Cf nc) 124 [.inr (some (20, 0)), .inl (if kp then 1 else 0)] σ) (Fw kp) Kw := by
  have e : fx_Ca (fx_S Rf Cf nc) 124 [.inr (some (20, 0)), .inl (if kp then 1 else 0)] σ = fx_E (fx_S Rf Cf nc) 124 8 [some (.inr (some (20, 0))), some (.inl (if kp then 1 else 0)), some (.inl ((0 : Nat) : Int)), none] [] (fx_up σ 20 0 39 1000000) := by
    rw [entX7_findWay]
    simp only [eX7_findWay_0, eX7_findWay_1, eX7_findWay_3, eX7_findWay_6, eX7_findWay_7, eX7_findWay_9, eX7_findWay_10, eX7_findWay_13, eX7_findWay_14, eX7_findWay_16, eX7_findWay_17, eX7_findWay_20, eX7_findWay_21, eX7_findWay_22, eX7_findWay_23, eX7_findWay_24, eX7_findWay_25, eX7_findWay_28, eX7_findWay_29, eX7_findWay_32, eX7_findWay_33, eX7_findWay_36, eX7_findWay_39, eX7_findWay_40, eX7_findWay_43, eX7_findWay_44, eX7_findWay_45, eX7_findWay_46, eX7_findWay_47, eX7_findWay_50, eX7_findWay_51, eX7_findWay_54, eX7_findWay_55, eX7_findWay_58, eX7_findWay_59, eX7_findWay_60, eX7_findWay_63, eX7_findWay_66, eX7_findWay_69, eX7_findWay_72, eX7_findWay_74]
    rfl
  rw [e]
  have hK1 : MK R C m mi st (fx_up σ 20 0 39 1000000) := hK.of (fun o x q => by unfold fx_up; rw [if_neg (by omega)])
  unfold mdls
  refine fw_two Rf Cf nc hK1 (by omega) (by omega) (by omega) (by rw [fx_ui, if_pos rfl]; rfl) none (fun σ1 l1 v1 k1 p1 q1 r1 => ?_)
  refine fw_two Rf Cf nc k1 (by omega) p1 q1 r1 v1 (fun σ2 l2 v2 k2 p2 q2 r2 => ?_)
  refine fw_two Rf Cf nc k2 (by omega) p2 q2 r2 v2 (fun σ3 l3 v3 k3 p3 q3 r3 => ?_)
  refine MRes.nil r3 ?_
  unfold Kw
  rw [eX7_findWay_8]
  simp (disch := omega) only [eX7_findWay_0, eX7_findWay_1, eX7_findWay_3, eX7_findWay_6, eX7_findWay_7, eX7_findWay_9, eX7_findWay_10, eX7_findWay_13, eX7_findWay_14, eX7_findWay_16, eX7_findWay_17, eX7_findWay_20, eX7_findWay_21, eX7_findWay_22, eX7_findWay_23, eX7_findWay_24, eX7_findWay_25, eX7_findWay_28, eX7_findWay_29, eX7_findWay_32, eX7_findWay_33, eX7_findWay_36, eX7_findWay_39, eX7_findWay_40, eX7_findWay_43, eX7_findWay_44, eX7_findWay_45, eX7_findWay_46, eX7_findWay_47, eX7_findWay_50, eX7_findWay_51, eX7_findWay_54, eX7_findWay_55, eX7_findWay_58, eX7_findWay_59, eX7_findWay_60, eX7_findWay_63, eX7_findWay_66, eX7_findWay_69, eX7_findWay_72, eX7_findWay_74, fx_bd_some, Option.toList_some, Option.toList_none, List.nil_append, List.cons_append, fx_uo, fx_ui, Int.toNat_natCast, ↓reduceIte, Int.reduceEq, Int.reduceLT, Int.reduceLE, Int.reduceNeg]
  try repeat (first | rw [if_pos (by omega)] | rw [if_neg (by omega)])
