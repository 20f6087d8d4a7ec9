/-! the class's search: the boards of a bundle -/
theorem ga_lp (Rf Cf : Nat → Nat) (nc : Nat) {g R C br bc : Nat} {pr pc ph : Nat → Nat} (hR : R ≤ 4) (hC4 : C ≤ 4) (hB : BW R C br bc pr pc ph) :
    ∀ (d i : Nat) (σ : fx_M), i + d = R * C → CB Rf Cf g R C br bc pr pc ph σ → (∀ p, p < 48 → BM (σ 8 0 p) (fun j => decide (j < i) && decide (12 * pr (ki C j) + pc (ki C j) = p))) →
    ∃ σ', fx_E (fx_S Rf Cf nc) 28 10 [some (.inr (some (7, 0))), some (.inr (some (15, g))), some (.inl (i : Int))] [] σ = some (none, σ') ∧ (∀ o k x, ¬ (k = 0 ∧ o = 8) → σ' o k x = σ o k x) ∧ ∀ p, p < 48 → BM (σ' 8 0 p) (fun j => decide (j < R * C) && decide (12 * pr (ki C j) + pc (ki C j) = p)) := by
  obtain ⟨⟨b1, b2⟩, ⟨b3, b4⟩, ⟨b5, b6⟩, ⟨b7, b8⟩, b9, b10, b11⟩ := id hB
  have h16 : R * C ≤ 16 := Nat.mul_le_mul hR hC4
  intro d
  induction d with
  | zero =>
    intro i σ hi hC hm
    obtain rfl : i = R * C := by omega
    refine ⟨σ, ?_, fun _ _ _ _ => rfl, hm⟩
    rw [eX2_gatherCells_10]
    simp (disch := omega) only [eX2_gatherCells_0, eX2_gatherCells_1, eX2_gatherCells_4, eX2_gatherCells_5, eX2_gatherCells_8, eX2_gatherCells_9, eX2_gatherCells_11, eX2_gatherCells_12, eX2_gatherCells_15, eX2_gatherCells_18, eX2_gatherCells_19, eX2_gatherCells_22, eX2_gatherCells_23, eX2_gatherCells_26, eX2_gatherCells_27, eX2_gatherCells_28, eX2_gatherCells_30, eX2_gatherCells_31, eX2_gatherCells_32, eX2_gatherCells_35, eX2_gatherCells_36, eX2_gatherCells_37, eX2_gatherCells_38, eX2_gatherCells_39, eX2_gatherCells_40, eX2_gatherCells_41, eX2_gatherCells_42, eX2_gatherCells_43, eX2_gatherCells_44, eX2_gatherCells_45, eX2_gatherCells_48, eX2_gatherCells_51, fx_bd_some, Option.toList_some, Option.toList_none, List.nil_append, List.cons_append, fx_uo, fx_ui, Int.toNat_natCast, ↓reduceIte, Int.reduceEq, Int.reduceLT, Int.reduceLE, Int.reduceNeg, hC.2.1]
    rw [if_neg (by omega)]
  | succ d ih =>
    intro i σ hi hC hm
    obtain ⟨⟨a1, a2, a3⟩, c1, c2, c3, c4, c5⟩ := id hC
    obtain ⟨e1, e2, -⟩ := c4 i (by omega)
    have w := b9 (ki C i) (ki_lt b2 b3 b4 (by omega)) (ki_C b3 b4 (by omega))
    obtain ⟨p, hp⟩ : ∃ p, p = 12 * pr (ki C i) + pc (ki C i) := ⟨_, rfl⟩
    have hp48 : p < 48 := by omega
    have i1 : ((pr (ki C i) : Int) * 12 + (pc (ki C i) : Int)).toNat = p := by omega
    obtain ⟨v, hv⟩ : ∃ v, v = (Int32.ofInt (σ 8 0 p) ||| Int32.ofInt ((Int32.ofInt 1 <<< (Int32.ofInt (i : Int) &&& 31)).toInt)).toInt := ⟨_, rfl⟩
    have hbm : BM v (fun j => (decide (j < i) && decide (12 * pr (ki C j) + pc (ki C j) = p)) || decide (i = j)) := by
      rw [hv]
      exact (hm p hp48).or (BM.pow (by omega))
    obtain ⟨τ, hτ⟩ : ∃ τ, τ = fx_up σ 8 0 p v := ⟨_, rfl⟩
    have fτ : ∀ o k x, ¬ (k = 0 ∧ o = 8 ∧ x = p) → τ o k x = σ o k x := fun o k x q => by
      rw [hτ]; unfold fx_up
      rw [if_neg (by omega)]
    obtain ⟨σ', j1, j2, j3⟩ := ih (i + 1) τ (by omega) (hC.of (fun o x q1 q2 => fτ _ _ _ (by omega))) (fun q hq => by
      by_cases hqp : q = p
      · subst hqp
        have : τ 8 0 q = v := by rw [hτ, fx_ui, if_pos rfl]
        rw [this]
        refine hbm.cg (fun j => ?_)
        by_cases hj : i = j
        · subst hj
          simp [hp]
        · rw [decide_eq_false hj, Bool.or_false]
          congr 1
          exact decide_eq_decide.mpr ⟨fun _ => by omega, fun _ => by omega⟩
      · rw [fτ _ _ _ (by omega)]
        refine (hm q hq).cg (fun j => ?_)
        by_cases hj : i = j
        · subst hj
          rw [decide_eq_false (p := 12 * pr (ki C i) + pc (ki C i) = q) (by omega)]
          simp
        · congr 1
          exact decide_eq_decide.mpr ⟨fun _ => by omega, fun _ => by omega⟩)
    refine ⟨σ', ?_, fun o k x q => by rw [j2 o k x q, fτ _ _ _ (by omega)], j3⟩
    rw [eX2_gatherCells_10]
    simp (disch := omega) only [eX2_gatherCells_0, eX2_gatherCells_1, eX2_gatherCells_4, eX2_gatherCells_5, eX2_gatherCells_8, eX2_gatherCells_9, eX2_gatherCells_11, eX2_gatherCells_12, eX2_gatherCells_15, eX2_gatherCells_18, eX2_gatherCells_19, eX2_gatherCells_22, eX2_gatherCells_23, eX2_gatherCells_26, eX2_gatherCells_27, eX2_gatherCells_28, eX2_gatherCells_30, eX2_gatherCells_31, eX2_gatherCells_32, eX2_gatherCells_35, eX2_gatherCells_36, eX2_gatherCells_37, eX2_gatherCells_38, eX2_gatherCells_39, eX2_gatherCells_40, eX2_gatherCells_41, eX2_gatherCells_42, eX2_gatherCells_43, eX2_gatherCells_44, eX2_gatherCells_45, eX2_gatherCells_48, eX2_gatherCells_51, fx_bd_some, Option.toList_some, Option.toList_none, List.nil_append, List.cons_append, fx_uo, fx_ui, Int.toNat_natCast, ↓reduceIte, Int.reduceEq, Int.reduceLT, Int.reduceLE, Int.reduceNeg, c1, e1, e2, i1]
    rw [if_pos (by omega), show (i : Int) + 1 = ((i + 1 : Nat) : Int) by omega, ← hv, ← hτ]
    exact j1
theorem sp_gatherCells (Rf Cf : Nat → Nat) (nc : Nat) {g R C br bc : Nat} {pr pc ph : Nat → Nat} (hR : R ≤ 4) (hC4 : C ≤ 4) (hB : BW R C br bc pr pc ph) (hg : g = 6 ∨ g = 7 ∨ g = 8) {σ : fx_M} (hC : CB Rf Cf g R C br bc pr pc ph σ) :
    ∃ σ', fx_Ca (fx_S Rf Cf nc) 28 [.inr (some (7, 0)), .inr (some (15, g))] σ = some (none, σ') ∧ (∀ o k x, ¬ (k = 0 ∧ o = 8) → σ' o k x = σ o k x) ∧ ∀ p, p < 48 → BM (σ' 8 0 p) (fun j => decide (j < R * C) && decide (12 * pr (ki C j) + pc (ki C j) = p)) := by
  have e := sp_fill Rf Cf nc 8 0 48 rfl rfl (by omega) 0 σ
  obtain ⟨τ, hτ⟩ : ∃ τ, τ = fx_fr σ 8 0 0 48 (fun _ => 0) := ⟨_, rfl⟩
  rw [← hτ] at e
  have fτ : ∀ o k x, ¬ (k = 0 ∧ o = 8) → τ o k x = σ o k x := fun o k x q => by
    rw [hτ]; unfold fx_fr
    rw [if_neg (by omega)]
  obtain ⟨σ', j1, j2, j3⟩ := ga_lp Rf Cf nc (g := g) hR hC4 hB (R * C) 0 τ (by omega) (hC.of (fun o x q1 q2 => fτ _ _ _ (by omega))) (fun p hp => by
    have : τ 8 0 p = 0 := by
      rw [hτ]; unfold fx_fr
      rw [if_pos (by omega)]
    rw [this]
    exact BM.zero.cg (fun j => by simp))
  rw [ic0] at j1
  refine ⟨σ', ?_, fun o k x q => by rw [j2 o k x q, fτ _ _ _ q], j3⟩
  rw [entX2_gatherCells]
  simp only [eX2_gatherCells_0, eX2_gatherCells_1, eX2_gatherCells_4, eX2_gatherCells_5, eX2_gatherCells_8, eX2_gatherCells_9, eX2_gatherCells_11, eX2_gatherCells_12, eX2_gatherCells_15, eX2_gatherCells_18, eX2_gatherCells_19, eX2_gatherCells_22, eX2_gatherCells_23, eX2_gatherCells_26, eX2_gatherCells_27, eX2_gatherCells_28, eX2_gatherCells_30, eX2_gatherCells_31, eX2_gatherCells_32, eX2_gatherCells_35, eX2_gatherCells_36, eX2_gatherCells_37, eX2_gatherCells_38, eX2_gatherCells_39, eX2_gatherCells_40, eX2_gatherCells_41, eX2_gatherCells_42, eX2_gatherCells_43, eX2_gatherCells_44, eX2_gatherCells_45, eX2_gatherCells_48, eX2_gatherCells_51, fx_bd_some, Option.toList_some, Option.toList_none, List.nil_append, List.cons_append, fx_uo, fx_ui, Int.toNat_natCast, ↓reduceIte, Int.reduceEq, Int.reduceLT, Int.reduceLE, Int.reduceNeg, e]
  exact j1
theorem tb_c (Rf Cf : Nat → Nat) (nc : Nat) {R C br bc t y g : Nat} {pr pc : Nat → Nat} (hbc : bc ≤ 4) (hy : y < 4) (u2 : Option fx_V) :
    ∀ (d c : Nat) (σ : fx_M), c + d = bc → σ 15 g 6 = bc → (∀ r n, r < 4 → n < 4 → BM (σ 8 0 (12 * r + n)) (fun j => decide (j < R * C) && decide (pr (ki C j) = r ∧ pc (ki C j) = n))) → (∀ n, n < bc → BM (σ 9 0 n) (colM R C pr pc t (if n < c then y + 1 else y) n)) → t ≤ y →
    ∃ σ', fx_E (fx_S Rf Cf nc) 27 50 [some (.inr (some (7, 0))), some (.inr (some (15, g))), u2, some (.inl (y : Int)), some (.inl (c : Int))] [] σ = fx_E (fx_S Rf Cf nc) 27 87 [some (.inr (some (7, 0))), some (.inr (some (15, g))), u2, some (.inl (y : Int)), some (.inl (bc : Int))] [] σ' ∧ (∀ o k x, ¬ (k = 0 ∧ o = 9) → σ' o k x = σ o k x) ∧ ∀ n, n < bc → BM (σ' 9 0 n) (colM R C pr pc t (y + 1) n) := by
  intro d
  induction d with
  | zero =>
    intro c σ hc h6 h8 h9 hty
    obtain rfl : c = bc := by omega
    refine ⟨σ, ?_, fun _ _ _ _ => rfl, fun n hn => by have := h9 n hn; rw [if_pos hn] at this; exact this⟩
    rw [eX2_tryBoards_50]
    simp (disch := omega) only [eX2_tryBoards_0, eX2_tryBoards_1, eX2_tryBoards_2, eX2_tryBoards_5, eX2_tryBoards_6, eX2_tryBoards_8, eX2_tryBoards_9, eX2_tryBoards_12, eX2_tryBoards_15, eX2_tryBoards_16, eX2_tryBoards_19, eX2_tryBoards_22, eX2_tryBoards_23, eX2_tryBoards_26, eX2_tryBoards_27, eX2_tryBoards_30, eX2_tryBoards_31, eX2_tryBoards_33, eX2_tryBoards_34, eX2_tryBoards_37, eX2_tryBoards_40, eX2_tryBoards_41, eX2_tryBoards_44, eX2_tryBoards_47, eX2_tryBoards_48, eX2_tryBoards_52, eX2_tryBoards_53, eX2_tryBoards_56, eX2_tryBoards_59, eX2_tryBoards_60, eX2_tryBoards_63, eX2_tryBoards_65, eX2_tryBoards_66, eX2_tryBoards_67, eX2_tryBoards_68, eX2_tryBoards_71, eX2_tryBoards_72, eX2_tryBoards_74, eX2_tryBoards_75, eX2_tryBoards_77, eX2_tryBoards_78, eX2_tryBoards_79, eX2_tryBoards_80, eX2_tryBoards_81, eX2_tryBoards_84, eX2_tryBoards_97, eX2_tryBoards_100, eX2_tryBoards_103, eX2_tryBoards_106, eX2_tryBoards_109, fx_bd_some, Option.toList_some, Option.toList_none, List.nil_append, List.cons_append, fx_uo, fx_ui, Int.toNat_natCast, ↓reduceIte, Int.reduceEq, Int.reduceLT, Int.reduceLE, Int.reduceNeg, h6]
    rw [if_neg (by omega)]
  | succ d ih =>
    intro c σ hc h6 h8 h9 hty
    have a1 := h9 c (by omega)
    rw [if_neg (by omega)] at a1
    have a2 := h8 y c hy (by omega)
    obtain ⟨v, hv⟩ : ∃ v, v = (Int32.ofInt (σ 9 0 c) ||| Int32.ofInt (σ 8 0 (12 * y + c))).toInt := ⟨_, rfl⟩
    have hb : BM v (colM R C pr pc t (y + 1) c) := by
      rw [hv]
      refine (a1.or a2).cg (fun i => ?_)
      unfold colM
      rw [← Bool.and_or_distrib_left, ← Bool.decide_or]
      congr 1
      exact decide_eq_decide.mpr ⟨fun _ => by omega, fun _ => by omega⟩
    obtain ⟨τ, hτ⟩ : ∃ τ, τ = fx_up σ 9 0 c v := ⟨_, rfl⟩
    have fτ : ∀ o k x, ¬ (k = 0 ∧ o = 9 ∧ x = c) → τ o k x = σ o k x := fun o k x q => by
      rw [hτ]; unfold fx_up
      rw [if_neg (by omega)]
    obtain ⟨σ', j1, j2, j3⟩ := ih (c + 1) τ (by omega) (by rw [fτ _ _ _ (by omega)]; exact h6) (fun r n hr hn => by rw [fτ _ _ _ (by omega)]; exact h8 r n hr hn) (fun n hn => by
      by_cases hnc : n = c
      · subst hnc
        have : τ 9 0 n = v := by rw [hτ, fx_ui, if_pos rfl]
        rw [this, if_pos (by omega)]
        exact hb
      · rw [fτ _ _ _ (by omega)]
        have := h9 n hn
        by_cases hlt : n < c
        · rw [if_pos hlt] at this; rw [if_pos (by omega)]; exact this
        · rw [if_neg hlt] at this; rw [if_neg (by omega)]; exact this) hty
    refine ⟨σ', ?_, fun o k x q => by rw [j2 o k x q, fτ _ _ _ (by omega)], j3⟩
    have i1 : ((y : Int) * 12 + (c : Int)).toNat = 12 * y + c := by omega
    rw [eX2_tryBoards_50]
    simp (disch := omega) only [eX2_tryBoards_0, eX2_tryBoards_1, eX2_tryBoards_2, eX2_tryBoards_5, eX2_tryBoards_6, eX2_tryBoards_8, eX2_tryBoards_9, eX2_tryBoards_12, eX2_tryBoards_15, eX2_tryBoards_16, eX2_tryBoards_19, eX2_tryBoards_22, eX2_tryBoards_23, eX2_tryBoards_26, eX2_tryBoards_27, eX2_tryBoards_30, eX2_tryBoards_31, eX2_tryBoards_33, eX2_tryBoards_34, eX2_tryBoards_37, eX2_tryBoards_40, eX2_tryBoards_41, eX2_tryBoards_44, eX2_tryBoards_47, eX2_tryBoards_48, eX2_tryBoards_52, eX2_tryBoards_53, eX2_tryBoards_56, eX2_tryBoards_59, eX2_tryBoards_60, eX2_tryBoards_63, eX2_tryBoards_65, eX2_tryBoards_66, eX2_tryBoards_67, eX2_tryBoards_68, eX2_tryBoards_71, eX2_tryBoards_72, eX2_tryBoards_74, eX2_tryBoards_75, eX2_tryBoards_77, eX2_tryBoards_78, eX2_tryBoards_79, eX2_tryBoards_80, eX2_tryBoards_81, eX2_tryBoards_84, eX2_tryBoards_97, eX2_tryBoards_100, eX2_tryBoards_103, eX2_tryBoards_106, eX2_tryBoards_109, fx_bd_some, Option.toList_some, Option.toList_none, List.nil_append, List.cons_append, fx_uo, fx_ui, Int.toNat_natCast, ↓reduceIte, Int.reduceEq, Int.reduceLT, Int.reduceLE, Int.reduceNeg, h6, i1]
    rw [if_pos (by omega), show (c : Int) + 1 = ((c + 1 : Nat) : Int) by omega, ← hv, ← hτ]
    exact j1
/-- what the loops over boards need of the memory -/
def TS (R C m br bc g : Nat) (pr pc : Nat → Nat) (σ : fx_M) : Prop := SK R C m σ ∧ σ 15 g 5 = br ∧ σ 15 g 6 = bc ∧ ∀ r n, r < 4 → n < 4 → BM (σ 8 0 (12 * r + n)) (fun j => decide (j < R * C) && decide (pr (ki C j) = r ∧ pc (ki C j) = n))
theorem TS.of {R C m br bc g : Nat} {pr pc : Nat → Nat} {σ σ' : fx_M} (h : TS R C m br bc g pr pc σ) (hs : ∀ o k x, ¬ (k = 0 ∧ (o = 9 ∨ o = 11 ∨ (o = 7 ∧ x = 8))) → σ' o k x = σ o k x) : TS R C m br bc g pr pc σ' :=
  ⟨h.1.of (hs _ _ _ (by omega)) (hs _ _ _ (by omega)), by rw [hs _ _ _ (by omega)]; exact h.2.1, by rw [hs _ _ _ (by omega)]; exact h.2.2.1, fun r n hr hn => by rw [hs _ _ _ (by omega)]; exact h.2.2.2 r n hr hn⟩
/-- as TB 1, but the cells' places stay -/
theorem tb_y (Rf Cf : Nat → Nat) (nc : Nat) {R C m br bc t g : Nat} {pr pc : Nat → Nat} (fs : List (Nat × Nat × Nat)) (hbr : br ≤ 4) (hbc : bc ≤ 4) :
    ∀ (d y l : Nat) (σ : fx_M) (u4 : Option fx_V), y + d = br → t ≤ y → l ≤ 1000 → TS R C m br bc g pr pc σ → σ 7 0 8 = (l : Int) → (∀ n, n < bc → BM (σ 9 0 n) (colM R C pr pc t y n)) →
    ∃ σ' v3 v4, fx_E (fx_S Rf Cf nc) 27 32 [some (.inr (some (7, 0))), some (.inr (some (15, g))), some (.inl (t : Int)), some (.inl (y : Int)), u4] [] σ = fx_E (fx_S Rf Cf nc) 27 7 [some (.inr (some (7, 0))), some (.inr (some (15, g))), some (.inl ((t + 1 : Nat) : Int)), v3, v4] [] σ' ∧ TS R C m br bc g pr pc σ' ∧ TB 1 σ σ' (gsc l (bd1 R C m br bc pr pc fs t y)) := by
  intro d
  induction d with
  | zero =>
    intro y l σ u4 hy hty hl hT h8 h9
    obtain rfl : y = br := by omega
    refine ⟨σ, some (.inl (y : Int)), u4, ?_, hT, by rw [bd1_ge (Nat.le_refl _)]; exact TB.refl 1 h8⟩
    rw [eX2_tryBoards_32]
    simp (disch := omega) only [eX2_tryBoards_0, eX2_tryBoards_1, eX2_tryBoards_2, eX2_tryBoards_5, eX2_tryBoards_6, eX2_tryBoards_8, eX2_tryBoards_9, eX2_tryBoards_12, eX2_tryBoards_15, eX2_tryBoards_16, eX2_tryBoards_19, eX2_tryBoards_22, eX2_tryBoards_23, eX2_tryBoards_26, eX2_tryBoards_27, eX2_tryBoards_30, eX2_tryBoards_31, eX2_tryBoards_33, eX2_tryBoards_34, eX2_tryBoards_37, eX2_tryBoards_40, eX2_tryBoards_41, eX2_tryBoards_44, eX2_tryBoards_47, eX2_tryBoards_48, eX2_tryBoards_52, eX2_tryBoards_53, eX2_tryBoards_56, eX2_tryBoards_59, eX2_tryBoards_60, eX2_tryBoards_63, eX2_tryBoards_65, eX2_tryBoards_66, eX2_tryBoards_67, eX2_tryBoards_68, eX2_tryBoards_71, eX2_tryBoards_72, eX2_tryBoards_74, eX2_tryBoards_75, eX2_tryBoards_77, eX2_tryBoards_78, eX2_tryBoards_79, eX2_tryBoards_80, eX2_tryBoards_81, eX2_tryBoards_84, eX2_tryBoards_87, eX2_tryBoards_88, eX2_tryBoards_89, eX2_tryBoards_90, eX2_tryBoards_91, eX2_tryBoards_94, eX2_tryBoards_97, eX2_tryBoards_100, eX2_tryBoards_103, eX2_tryBoards_106, eX2_tryBoards_109, fx_bd_some, Option.toList_some, Option.toList_none, List.nil_append, List.cons_append, fx_uo, fx_ui, Int.toNat_natCast, ↓reduceIte, Int.reduceEq, Int.reduceLT, Int.reduceLE, Int.reduceNeg, hT.2.1]
    rw [if_neg (by omega), show (t : Int) + 1 = ((t + 1 : Nat) : Int) by omega]
  | succ d ih =>
    intro y l σ u4 hy hty hl hT h8 h9
    by_cases hl0 : l = 0
    · subst hl0
      refine ⟨σ, some (.inl (y : Int)), u4, ?_, hT, by rw [gsc_zero]; exact TB.refl 1 h8⟩
      rw [eX2_tryBoards_32]
      simp (disch := omega) only [eX2_tryBoards_0, eX2_tryBoards_1, eX2_tryBoards_2, eX2_tryBoards_5, eX2_tryBoards_6, eX2_tryBoards_8, eX2_tryBoards_9, eX2_tryBoards_12, eX2_tryBoards_15, eX2_tryBoards_16, eX2_tryBoards_19, eX2_tryBoards_22, eX2_tryBoards_23, eX2_tryBoards_26, eX2_tryBoards_27, eX2_tryBoards_30, eX2_tryBoards_31, eX2_tryBoards_33, eX2_tryBoards_34, eX2_tryBoards_37, eX2_tryBoards_40, eX2_tryBoards_41, eX2_tryBoards_44, eX2_tryBoards_47, eX2_tryBoards_48, eX2_tryBoards_52, eX2_tryBoards_53, eX2_tryBoards_56, eX2_tryBoards_59, eX2_tryBoards_60, eX2_tryBoards_63, eX2_tryBoards_65, eX2_tryBoards_66, eX2_tryBoards_67, eX2_tryBoards_68, eX2_tryBoards_71, eX2_tryBoards_72, eX2_tryBoards_74, eX2_tryBoards_75, eX2_tryBoards_77, eX2_tryBoards_78, eX2_tryBoards_79, eX2_tryBoards_80, eX2_tryBoards_81, eX2_tryBoards_84, eX2_tryBoards_87, eX2_tryBoards_88, eX2_tryBoards_89, eX2_tryBoards_90, eX2_tryBoards_91, eX2_tryBoards_94, eX2_tryBoards_97, eX2_tryBoards_100, eX2_tryBoards_103, eX2_tryBoards_106, eX2_tryBoards_109, fx_bd_some, Option.toList_some, Option.toList_none, List.nil_append, List.cons_append, fx_uo, fx_ui, Int.toNat_natCast, ↓reduceIte, Int.reduceEq, Int.reduceLT, Int.reduceLE, Int.reduceNeg, hT.2.1, h8]
      rw [if_pos (by omega), if_neg (by omega), show (t : Int) + 1 = ((t + 1 : Nat) : Int) by omega]
    · obtain ⟨σ1, a1, a2, a3⟩ := tb_c Rf Cf nc (br := br) (g := g) hbc (show y < 4 by omega) (some (.inl (t : Int))) bc 0 σ (by omega) hT.2.2.1 hT.2.2.2 (fun n hn => by rw [if_neg (by omega)]; exact h9 n hn) hty
      rw [ic0] at a1
      have hT1 : TS R C m br bc g pr pc σ1 := hT.of (fun o k x q => a2 o k x (by omega))
      have h81 : σ1 7 0 8 = (l : Int) := by rw [a2 _ _ _ (by omega)]; exact h8
      obtain ⟨σ2, c1, c2⟩ := sp_tryColumns Rf Cf nc (t := t) (b := y) fs hbc hl hT1.1 h81 a3
      have hT2 : TS R C m br bc g pr pc σ2 := hT1.of (fun o k x q => c2.1 o k x (by omega))
      have hTB : TB 1 σ σ2 (gsc l (bd2 R C m bc pr pc fs t y 0)) := ⟨fun o k x q => by rw [c2.1 o k x (by omega), a2 o k x (by omega)], c2.2.1, fun j hj => by rw [c2.2.2 j hj, a2 _ _ _ (by omega)]⟩
      have hle := (gsc_le (bd2 R C m bc pr pc fs t y 0) l).1
      obtain ⟨σ', v3, v4, i1, i2, i3⟩ := ih (y + 1) (gsc l (bd2 R C m bc pr pc fs t y 0)).1 σ2 (some (.inl (bc : Int))) (by omega) (by omega) (by omega) hT2 hTB.2.1 (fun n hn => by rw [c2.1 _ _ _ (by omega)]; exact a3 n hn)
      refine ⟨σ', v3, v4, ?_, i2, by rw [bd1_lt (show y < br by omega)]; exact hTB.tr i3⟩
      rw [eX2_tryBoards_32]
      simp (disch := omega) only [eX2_tryBoards_0, eX2_tryBoards_1, eX2_tryBoards_2, eX2_tryBoards_5, eX2_tryBoards_6, eX2_tryBoards_8, eX2_tryBoards_9, eX2_tryBoards_12, eX2_tryBoards_15, eX2_tryBoards_16, eX2_tryBoards_19, eX2_tryBoards_22, eX2_tryBoards_23, eX2_tryBoards_26, eX2_tryBoards_27, eX2_tryBoards_30, eX2_tryBoards_31, eX2_tryBoards_33, eX2_tryBoards_34, eX2_tryBoards_37, eX2_tryBoards_40, eX2_tryBoards_41, eX2_tryBoards_44, eX2_tryBoards_47, eX2_tryBoards_48, eX2_tryBoards_52, eX2_tryBoards_53, eX2_tryBoards_56, eX2_tryBoards_59, eX2_tryBoards_60, eX2_tryBoards_63, eX2_tryBoards_65, eX2_tryBoards_66, eX2_tryBoards_67, eX2_tryBoards_68, eX2_tryBoards_71, eX2_tryBoards_72, eX2_tryBoards_74, eX2_tryBoards_75, eX2_tryBoards_77, eX2_tryBoards_78, eX2_tryBoards_79, eX2_tryBoards_80, eX2_tryBoards_81, eX2_tryBoards_84, eX2_tryBoards_87, eX2_tryBoards_88, eX2_tryBoards_89, eX2_tryBoards_90, eX2_tryBoards_91, eX2_tryBoards_94, eX2_tryBoards_97, eX2_tryBoards_100, eX2_tryBoards_103, eX2_tryBoards_106, eX2_tryBoards_109, fx_bd_some, Option.toList_some, Option.toList_none, List.nil_append, List.cons_append, fx_uo, fx_ui, Int.toNat_natCast, ↓reduceIte, Int.reduceEq, Int.reduceLT, Int.reduceLE, Int.reduceNeg, hT.2.1, h8]
      rw [if_pos (by omega), if_pos (by omega), a1]
      simp (disch := omega) only [eX2_tryBoards_0, eX2_tryBoards_1, eX2_tryBoards_2, eX2_tryBoards_5, eX2_tryBoards_6, eX2_tryBoards_8, eX2_tryBoards_9, eX2_tryBoards_12, eX2_tryBoards_15, eX2_tryBoards_16, eX2_tryBoards_19, eX2_tryBoards_22, eX2_tryBoards_23, eX2_tryBoards_26, eX2_tryBoards_27, eX2_tryBoards_30, eX2_tryBoards_31, eX2_tryBoards_33, eX2_tryBoards_34, eX2_tryBoards_37, eX2_tryBoards_40, eX2_tryBoards_41, eX2_tryBoards_44, eX2_tryBoards_47, eX2_tryBoards_48, eX2_tryBoards_52, eX2_tryBoards_53, eX2_tryBoards_56, eX2_tryBoards_59, eX2_tryBoards_60, eX2_tryBoards_63, eX2_tryBoards_65, eX2_tryBoards_66, eX2_tryBoards_67, eX2_tryBoards_68, eX2_tryBoards_71, eX2_tryBoards_72, eX2_tryBoards_74, eX2_tryBoards_75, eX2_tryBoards_77, eX2_tryBoards_78, eX2_tryBoards_79, eX2_tryBoards_80, eX2_tryBoards_81, eX2_tryBoards_84, eX2_tryBoards_87, eX2_tryBoards_88, eX2_tryBoards_89, eX2_tryBoards_90, eX2_tryBoards_91, eX2_tryBoards_94, eX2_tryBoards_97, eX2_tryBoards_100, eX2_tryBoards_103, eX2_tryBoards_106, eX2_tryBoards_109, fx_bd_some, Option.toList_some, Option.toList_none, List.nil_append, List.cons_append, fx_uo, fx_ui, Int.toNat_natCast, ↓reduceIte, Int.reduceEq, Int.reduceLT, Int.reduceLE, Int.reduceNeg, hT1.2.2.1, c1]
      rw [show (y : Int) + 1 = ((y + 1 : Nat) : Int) by omega]
      exact i1
theorem tb_t (Rf Cf : Nat → Nat) (nc : Nat) {R C m br bc g : Nat} {pr pc : Nat → Nat} (fs : List (Nat × Nat × Nat)) (hbr : br ≤ 4) (hbc : bc ≤ 4) :
    ∀ (d t l : Nat) (σ : fx_M) (u3 u4 : Option fx_V), t + d = br → l ≤ 1000 → TS R C m br bc g pr pc σ → σ 7 0 8 = (l : Int) →
    ∃ σ', fx_E (fx_S Rf Cf nc) 27 7 [some (.inr (some (7, 0))), some (.inr (some (15, g))), some (.inl (t : Int)), u3, u4] [] σ = some (none, σ') ∧ TB 1 σ σ' (gsc l (bd0 R C m br bc pr pc fs t)) := by
  intro d
  induction d with
  | zero =>
    intro t l σ u3 u4 ht hl hT h8
    obtain rfl : t = br := by omega
    refine ⟨σ, ?_, by rw [bd0_ge (Nat.le_refl _)]; exact TB.refl 1 h8⟩
    rw [eX2_tryBoards_7]
    simp (disch := omega) only [eX2_tryBoards_0, eX2_tryBoards_1, eX2_tryBoards_2, eX2_tryBoards_5, eX2_tryBoards_6, eX2_tryBoards_8, eX2_tryBoards_9, eX2_tryBoards_12, eX2_tryBoards_15, eX2_tryBoards_16, eX2_tryBoards_19, eX2_tryBoards_22, eX2_tryBoards_23, eX2_tryBoards_26, eX2_tryBoards_27, eX2_tryBoards_30, eX2_tryBoards_31, eX2_tryBoards_33, eX2_tryBoards_34, eX2_tryBoards_37, eX2_tryBoards_40, eX2_tryBoards_41, eX2_tryBoards_44, eX2_tryBoards_47, eX2_tryBoards_48, eX2_tryBoards_52, eX2_tryBoards_53, eX2_tryBoards_56, eX2_tryBoards_59, eX2_tryBoards_60, eX2_tryBoards_63, eX2_tryBoards_65, eX2_tryBoards_66, eX2_tryBoards_67, eX2_tryBoards_68, eX2_tryBoards_71, eX2_tryBoards_72, eX2_tryBoards_74, eX2_tryBoards_75, eX2_tryBoards_77, eX2_tryBoards_78, eX2_tryBoards_79, eX2_tryBoards_80, eX2_tryBoards_81, eX2_tryBoards_84, eX2_tryBoards_87, eX2_tryBoards_88, eX2_tryBoards_89, eX2_tryBoards_90, eX2_tryBoards_91, eX2_tryBoards_94, eX2_tryBoards_97, eX2_tryBoards_100, eX2_tryBoards_103, eX2_tryBoards_106, eX2_tryBoards_109, fx_bd_some, Option.toList_some, Option.toList_none, List.nil_append, List.cons_append, fx_uo, fx_ui, Int.toNat_natCast, ↓reduceIte, Int.reduceEq, Int.reduceLT, Int.reduceLE, Int.reduceNeg, hT.2.1]
    rw [if_neg (by omega)]
  | succ d ih =>
    intro t l σ u3 u4 ht hl hT h8
    by_cases hl0 : l = 0
    · subst hl0
      refine ⟨σ, ?_, by rw [gsc_zero]; exact TB.refl 1 h8⟩
      rw [eX2_tryBoards_7]
      simp (disch := omega) only [eX2_tryBoards_0, eX2_tryBoards_1, eX2_tryBoards_2, eX2_tryBoards_5, eX2_tryBoards_6, eX2_tryBoards_8, eX2_tryBoards_9, eX2_tryBoards_12, eX2_tryBoards_15, eX2_tryBoards_16, eX2_tryBoards_19, eX2_tryBoards_22, eX2_tryBoards_23, eX2_tryBoards_26, eX2_tryBoards_27, eX2_tryBoards_30, eX2_tryBoards_31, eX2_tryBoards_33, eX2_tryBoards_34, eX2_tryBoards_37, eX2_tryBoards_40, eX2_tryBoards_41, eX2_tryBoards_44, eX2_tryBoards_47, eX2_tryBoards_48, eX2_tryBoards_52, eX2_tryBoards_53, eX2_tryBoards_56, eX2_tryBoards_59, eX2_tryBoards_60, eX2_tryBoards_63, eX2_tryBoards_65, eX2_tryBoards_66, eX2_tryBoards_67, eX2_tryBoards_68, eX2_tryBoards_71, eX2_tryBoards_72, eX2_tryBoards_74, eX2_tryBoards_75, eX2_tryBoards_77, eX2_tryBoards_78, eX2_tryBoards_79, eX2_tryBoards_80, eX2_tryBoards_81, eX2_tryBoards_84, eX2_tryBoards_87, eX2_tryBoards_88, eX2_tryBoards_89, eX2_tryBoards_90, eX2_tryBoards_91, eX2_tryBoards_94, eX2_tryBoards_97, eX2_tryBoards_100, eX2_tryBoards_103, eX2_tryBoards_106, eX2_tryBoards_109, fx_bd_some, Option.toList_some, Option.toList_none, List.nil_append, List.cons_append, fx_uo, fx_ui, Int.toNat_natCast, ↓reduceIte, Int.reduceEq, Int.reduceLT, Int.reduceLE, Int.reduceNeg, hT.2.1, h8]
      rw [if_pos (by omega), if_neg (by omega)]
    · have e := sp_fill Rf Cf nc 9 0 4 rfl rfl (by omega) 0 σ
      obtain ⟨τ, hτ⟩ : ∃ τ, τ = fx_fr σ 9 0 0 4 (fun _ => 0) := ⟨_, rfl⟩
      rw [← hτ] at e
      have fτ : ∀ o k x, ¬ (k = 0 ∧ o = 9) → τ o k x = σ o k x := fun o k x q => by
        rw [hτ]; unfold fx_fr
        rw [if_neg (by omega)]
      have hT1 : TS R C m br bc g pr pc τ := hT.of (fun o k x q => fτ o k x (by omega))
      have h81 : τ 7 0 8 = (l : Int) := by rw [fτ _ _ _ (by omega)]; exact h8
      obtain ⟨σ1, v3, v4, a1, a2, a3⟩ := tb_y Rf Cf nc (t := t) fs hbr hbc (br - t) t l τ u4 (by omega) (Nat.le_refl _) hl hT1 h81 (fun n hn => by
        have : τ 9 0 n = 0 := by
          rw [hτ]; unfold fx_fr
          rw [if_pos (by omega)]
        rw [this]
        refine BM.zero.cg (fun i => ?_)
        unfold colM
        rw [decide_eq_false (p := pc (ki C i) = n ∧ t ≤ pr (ki C i) ∧ pr (ki C i) < t) (by omega)]
        simp)
      have hTB : TB 1 σ σ1 (gsc l (bd1 R C m br bc pr pc fs t t)) := ⟨fun o k x q => by rw [a3.1 o k x q, fτ o k x (by omega)], a3.2.1, fun j hj => by rw [a3.2.2 j hj, fτ _ _ _ (by omega)]⟩
      have hle := (gsc_le (bd1 R C m br bc pr pc fs t t) l).1
      obtain ⟨σ', i1, i2⟩ := ih (t + 1) (gsc l (bd1 R C m br bc pr pc fs t t)).1 σ1 v3 v4 (by omega) (by omega) a2 hTB.2.1
      refine ⟨σ', ?_, by rw [bd0_lt (show t < br by omega)]; exact hTB.tr i2⟩
      rw [eX2_tryBoards_7]
      simp (disch := omega) only [eX2_tryBoards_0, eX2_tryBoards_1, eX2_tryBoards_2, eX2_tryBoards_5, eX2_tryBoards_6, eX2_tryBoards_8, eX2_tryBoards_9, eX2_tryBoards_12, eX2_tryBoards_15, eX2_tryBoards_16, eX2_tryBoards_19, eX2_tryBoards_22, eX2_tryBoards_23, eX2_tryBoards_26, eX2_tryBoards_27, eX2_tryBoards_30, eX2_tryBoards_31, eX2_tryBoards_33, eX2_tryBoards_34, eX2_tryBoards_37, eX2_tryBoards_40, eX2_tryBoards_41, eX2_tryBoards_44, eX2_tryBoards_47, eX2_tryBoards_48, eX2_tryBoards_52, eX2_tryBoards_53, eX2_tryBoards_56, eX2_tryBoards_59, eX2_tryBoards_60, eX2_tryBoards_63, eX2_tryBoards_65, eX2_tryBoards_66, eX2_tryBoards_67, eX2_tryBoards_68, eX2_tryBoards_71, eX2_tryBoards_72, eX2_tryBoards_74, eX2_tryBoards_75, eX2_tryBoards_77, eX2_tryBoards_78, eX2_tryBoards_79, eX2_tryBoards_80, eX2_tryBoards_81, eX2_tryBoards_84, eX2_tryBoards_87, eX2_tryBoards_88, eX2_tryBoards_89, eX2_tryBoards_90, eX2_tryBoards_91, eX2_tryBoards_94, eX2_tryBoards_97, eX2_tryBoards_100, eX2_tryBoards_103, eX2_tryBoards_106, eX2_tryBoards_109, fx_bd_some, Option.toList_some, Option.toList_none, List.nil_append, List.cons_append, fx_uo, fx_ui, Int.toNat_natCast, ↓reduceIte, Int.reduceEq, Int.reduceLT, Int.reduceLE, Int.reduceNeg, hT.2.1, h8, e]
      rw [if_pos (by omega), if_pos (by omega)]
      exact a1.trans i1
theorem sp_tryBoards (Rf Cf : Nat → Nat) (nc : Nat) {g R C m br bc l : Nat} {pr pc ph : Nat → Nat} (fs : List (Nat × Nat × Nat)) {σ : fx_M} (hK : SK R C m σ) (hB : BW R C br bc pr pc ph) (hg : g = 6 ∨ g = 7 ∨ g = 8) (hC : CB Rf Cf g R C br bc pr pc ph σ) (hl : l ≤ 1000) (h8 : σ 7 0 8 = (l : Int)) :
    ∃ σ', fx_Ca (fx_S Rf Cf nc) 27 [.inr (some (7, 0)), .inr (some (15, g))] σ = some (none, σ') ∧ TB 1 σ σ' (gsc l (bd0 R C m br bc pr pc fs 0)) := by
  obtain ⟨⟨k1, k2⟩, k3⟩ := id hK.1
  obtain ⟨⟨b1, b2⟩, ⟨b3, b4⟩, ⟨b5, b6⟩, ⟨b7, b8⟩, b9, b10, b11⟩ := id hB
  obtain ⟨σ1, a1, a2, a3⟩ := sp_gatherCells Rf Cf nc k2 k3.2 hB hg hC
  have hT : TS R C m br bc g pr pc σ1 := by
    refine ⟨hK.of (a2 _ _ _ (by omega)) (a2 _ _ _ (by omega)), by rw [a2 _ _ _ (by omega)]; exact hC.2.2.1, by rw [a2 _ _ _ (by omega)]; exact hC.2.2.2.1, fun r n hr hn => (a3 (12 * r + n) (by omega)).cg (fun j => ?_)⟩
    by_cases hj : j < R * C
    · have w := b9 (ki C j) (ki_lt b2 b3 b4 hj) (ki_C b3 b4 hj)
      congr 1
      exact decide_eq_decide.mpr ⟨fun _ => by omega, fun _ => by omega⟩
    · simp [hj]
  obtain ⟨σ', i1, i2⟩ := tb_t Rf Cf nc (g := g) fs (by omega) (by omega) br 0 l σ1 none none (by omega) hl hT (by rw [a2 _ _ _ (by omega)]; exact h8)
  rw [ic0] at i1
  refine ⟨σ', ?_, fun o k x q => by rw [i2.1 o k x q, a2 o k x (by omega)], i2.2.1, fun j hj => by rw [i2.2.2 j hj, a2 _ _ _ (by omega)]⟩
  rw [entX2_tryBoards]
  simp only [eX2_tryBoards_0, eX2_tryBoards_1, eX2_tryBoards_2, eX2_tryBoards_5, eX2_tryBoards_6, eX2_tryBoards_8, eX2_tryBoards_9, eX2_tryBoards_12, eX2_tryBoards_15, eX2_tryBoards_16, eX2_tryBoards_19, eX2_tryBoards_22, eX2_tryBoards_23, eX2_tryBoards_26, eX2_tryBoards_27, eX2_tryBoards_30, eX2_tryBoards_31, eX2_tryBoards_33, eX2_tryBoards_34, eX2_tryBoards_37, eX2_tryBoards_40, eX2_tryBoards_41, eX2_tryBoards_44, eX2_tryBoards_47, eX2_tryBoards_48, eX2_tryBoards_52, eX2_tryBoards_53, eX2_tryBoards_56, eX2_tryBoards_59, eX2_tryBoards_60, eX2_tryBoards_63, eX2_tryBoards_65, eX2_tryBoards_66, eX2_tryBoards_67, eX2_tryBoards_68, eX2_tryBoards_71, eX2_tryBoards_72, eX2_tryBoards_74, eX2_tryBoards_75, eX2_tryBoards_77, eX2_tryBoards_78, eX2_tryBoards_79, eX2_tryBoards_80, eX2_tryBoards_81, eX2_tryBoards_84, eX2_tryBoards_87, eX2_tryBoards_88, eX2_tryBoards_89, eX2_tryBoards_90, eX2_tryBoards_91, eX2_tryBoards_94, eX2_tryBoards_97, eX2_tryBoards_100, eX2_tryBoards_103, eX2_tryBoards_106, eX2_tryBoards_109, fx_bd_some, Option.toList_some, Option.toList_none, List.nil_append, List.cons_append, fx_uo, fx_ui, Int.toNat_natCast, ↓reduceIte, Int.reduceEq, Int.reduceLT, Int.reduceLE, Int.reduceNeg, a1]
  exact i1
