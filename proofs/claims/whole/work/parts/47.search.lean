/-! the class's search: cells as bits -/
def BM (v : Int) (P : Nat → Bool) : Prop := ∃ x : Nat, v = x ∧ x < 65536 ∧ ∀ i, x.testBit i = P i
theorem BM.zero : BM 0 (fun _ => false) := ⟨0, rfl, by omega, fun i => Nat.zero_testBit i⟩
theorem BM.cg {v : Int} {P Q : Nat → Bool} (h : BM v P) (e : ∀ i, P i = Q i) : BM v Q := by
  obtain ⟨x, h1, h2, h3⟩ := h
  exact ⟨x, h1, h2, fun i => (h3 i).trans (e i)⟩
theorem BM.or {v w : Int} {P Q : Nat → Bool} (h : BM v P) (g : BM w Q) : BM ((Int32.ofInt v ||| Int32.ofInt w).toInt) (fun i => P i || Q i) := by
  obtain ⟨x, rfl, h2, h3⟩ := h
  obtain ⟨y, rfl, g2, g3⟩ := g
  refine ⟨x ||| y, i32_or x y h2 g2, Nat.or_lt_two_pow (n := 16) h2 g2, fun i => ?_⟩
  rw [Nat.testBit_or, h3, g3]
theorem BM.pow {i : Nat} (hi : i < 16) : BM ((Int32.ofInt 1 <<< (Int32.ofInt (i : Int) &&& 31)).toInt) (fun j => decide (i = j)) := ⟨2 ^ i, i32_shl1 i hi, pow_lt16 i hi, fun j => by rw [Nat.testBit_two_pow]⟩
/-- what the search knows of the wish -/
def SK (R C m : Nat) (σ : fx_M) : Prop := ((1 ≤ R ∧ R ≤ 4) ∧ (1 ≤ C ∧ C ≤ 4)) ∧ m < 65536 ∧ (∀ i, R * C ≤ i → m.testBit i = false) ∧ σ 7 0 6 = ((2 ^ (R * C) - 1 : Nat) : Int) ∧ σ 7 0 7 = m
theorem SK.of {R C m : Nat} {σ σ' : fx_M} (h : SK R C m σ) (h6 : σ' 7 0 6 = σ 7 0 6) (h7 : σ' 7 0 7 = σ 7 0 7) : SK R C m σ' := ⟨h.1, h.2.1, h.2.2.1, by rw [h6]; exact h.2.2.2.1, by rw [h7]; exact h.2.2.2.2⟩
theorem sp_differ (Rf Cf : Nat → Nat) (nc : Nat) {σ : fx_M} {R C m : Nat} (hK : SK R C m σ) (pr pc : Nat → Nat) (sh : Nat → Nat → Bool) {s : Int} {P : Nat → Bool} (hs : BM s P) (hP : ∀ i, i < R * C → P i = sh (pr (ki C i)) (pc (ki C i))) : fx_Ca (fx_S Rf Cf nc) 30 [.inr (some (7, 0)), .inl s] σ = some (some (.inl (dif R C m pr pc sh : Int)), σ) := by
  obtain ⟨⟨h1, h2⟩, h3, h4, h5, h6⟩ := hK
  obtain ⟨x, rfl, hx, hb⟩ := hs
  have h16 : R * C ≤ 16 := Nat.mul_le_mul h1.2 h2.2
  have hp : 2 ^ (R * C) ≤ 65536 := by
    have : 2 ^ (R * C) ≤ 2 ^ 16 := Nat.pow_le_pow_right (by omega) h16
    omega
  have hp0 : 0 < 2 ^ (R * C) := Nat.two_pow_pos _
  have ha : 2 ^ (R * C) - 1 < 65536 := by omega
  have e1 := i32_wo (2 ^ (R * C) - 1) x ha hx
  have hw : wo (2 ^ (R * C) - 1) x < 65536 := Nat.lt_of_le_of_lt Nat.and_le_left ha
  have e2 := i32_xor (wo (2 ^ (R * C) - 1) x) m hw h3
  have hxr : wo (2 ^ (R * C) - 1) x ^^^ m < 65536 := Nat.xor_lt_two_pow (n := 16) hw h3
  have e3 := sp_bitCount Rf Cf nc σ _ hxr
  rw [entX2_differingUnder]
  simp only [eX2_differingUnder_0, eX2_differingUnder_1, eX2_differingUnder_4, eX2_differingUnder_5, eX2_differingUnder_6, eX2_differingUnder_7, eX2_differingUnder_8, eX2_differingUnder_9, eX2_differingUnder_12, eX2_differingUnder_13, eX2_differingUnder_16, fx_bd_some, Option.toList_some, Option.toList_none, List.nil_append, List.cons_append, fx_uo, fx_ui, Int.toNat_natCast, ↓reduceIte, Int.reduceEq, Int.reduceLT, Int.reduceLE, Int.reduceNeg, h5, h6, e1, e2, e3]
  rw [bcN_eq _ hxr]
  have e4 : cntP 16 (fun i => (wo (2 ^ (R * C) - 1) x ^^^ m).testBit i) = dif R C m pr pc sh := by
    rw [cntP_cut h16 (fun k hk _ => by
      rw [Nat.testBit_xor, wo_bit _ _ _ ha, Nat.testBit_two_pow_sub_one, h4 k hk, decide_eq_false (by omega)]
      rfl)]
    unfold dif
    rw [← cnt_cells (R := R) (C := C) (by omega) h2.1 (by omega) (fun k => (!sh (pr k) (pc k)) != m.testBit (ix C k))]
    refine cntP_congr (fun i hi => ?_)
    rw [Nat.testBit_xor, wo_bit _ _ _ ha, Nat.testBit_two_pow_sub_one, decide_eq_true hi, hb, hP i hi, ix_ki h2.1 (by omega)]
    cases sh (pr (ki C i)) (pc (ki C i)) <;> cases m.testBit i <;> rfl
  rw [e4]
/-! the board that is found -/
def bvv (q : Bq) (j : Nat) : Int := if j = 0 then (q.1 : Int) else if j = 1 then (q.2.1 : Int) else if j = 2 then (q.2.2.1 : Int) else (q.2.2.2 : Int)
def bvl (d : Int) (w : Option Wy) (j : Nat) : Int := match w with
  | some (_, some q) => bvv q j
  | _ => d
def TB (z : Nat) (σ σ' : fx_M) (r : Nat × Option Wy) : Prop := (∀ o k x, ¬ ((k = 0 ∧ o = 7 ∧ x = 8) ∨ (k = 0 ∧ o = 11 ∧ 8 ≤ x ∧ x < 12) ∨ (1 ≤ z ∧ k = 0 ∧ (o = 8 ∨ o = 9)) ∨ (2 ≤ z ∧ ((k = 0 ∧ (o = 10 ∨ (o = 11 ∧ x < 8))) ∨ (15 ≤ o ∧ o ≤ 19 ∧ (k = 7 ∨ k = 8))))) → σ' o k x = σ o k x) ∧ σ' 7 0 8 = (r.1 : Int) ∧ ∀ j, j < 4 → σ' 11 0 (8 + j) = bvl (σ 11 0 (8 + j)) r.2 j
theorem TB.refl (z : Nat) {σ : fx_M} {l : Nat} (h : σ 7 0 8 = (l : Int)) : TB z σ σ (l, none) := ⟨fun _ _ _ _ => rfl, h, fun _ _ => rfl⟩
theorem TB.up {z z' : Nat} {σ σ' : fx_M} {r : Nat × Option Wy} (h : TB z σ σ' r) (hz : z ≤ z') : TB z' σ σ' r := ⟨fun o k x q => h.1 o k x (by omega), h.2⟩
theorem TB.tr {z : Nat} {σ σ1 σ2 : fx_M} {l : Nat} {A B : List (Nat × Wy)} (h : TB z σ σ1 (gsc l A)) (g : TB z σ1 σ2 (gsc (gsc l A).1 B)) : TB z σ σ2 (gsc l (A ++ B)) := by
  refine ⟨fun o k x q => by rw [g.1 o k x q, h.1 o k x q], ?_, fun j hj => ?_⟩
  · rw [gsc_app]; exact g.2.1
  · rw [g.2.2 j hj, h.2.2 j hj, gsc_app]
    cases hw : (gsc l A).2 with
    | none => simp [bvl]
    | some w =>
      have := gsc_found hw
      rw [this, gsc_zero]
      simp [bvl]
theorem TB.sk {z : Nat} {σ σ' : fx_M} {r : Nat × Option Wy} (h : TB z σ σ' r) {R C m : Nat} (hK : SK R C m σ) : SK R C m σ' := hK.of (h.1 _ _ _ (by omega)) (h.1 _ _ _ (by omega))
theorem gsc_one {l : Nat} (h : 0 < l) (p : Nat × Wy) : gsc l [p] = (min l p.1, if p.1 = 0 then some p.2 else none) := by
  rw [gsc_cons h]
  simp [gsc]
theorem sp_setBoard (Rf Cf : Nat → Nat) (nc : Nat) (σ : fx_M) (a b c d : Int) : fx_Ca (fx_S Rf Cf nc) 39 [.inr (some (10, 0)), .inl a, .inl b, .inl c, .inl d] σ = some (none, fx_up (fx_up (fx_up (fx_up σ 11 0 8 a) 11 0 9 b) 11 0 10 c) 11 0 11 d) := by
  rw [entX4_setBoard]
  simp (disch := omega) only [eX4_setBoard_0, eX4_setBoard_1, eX4_setBoard_4, eX4_setBoard_6, eX4_setBoard_7, eX4_setBoard_8, eX4_setBoard_9, eX4_setBoard_12, eX4_setBoard_14, eX4_setBoard_15, eX4_setBoard_16, eX4_setBoard_17, eX4_setBoard_20, eX4_setBoard_22, eX4_setBoard_23, eX4_setBoard_24, eX4_setBoard_25, eX4_setBoard_28, eX4_setBoard_30, eX4_setBoard_32, eX4_setBoard_33, fx_bd_some, Option.toList_some, Option.toList_none, List.nil_append, List.cons_append, fx_uo, fx_ui, Int.toNat_natCast, ↓reduceIte, Int.reduceEq, Int.reduceLT, Int.reduceLE, Int.reduceNeg, Int.reduceToNat]
/-- the cells of a column in rows t to y - 1, as bits -/
def colM (R C : Nat) (pr pc : Nat → Nat) (t y c : Nat) (i : Nat) : Bool := decide (i < R * C) && decide (pc (ki C i) = c ∧ t ≤ pr (ki C i) ∧ pr (ki C i) < y)
theorem tc_in (Rf Cf : Nat → Nat) (nc : Nat) {R C m bc t b : Nat} {pr pc : Nat → Nat} (fs : List (Nat × Nat × Nat)) (hbc : bc ≤ 4) (x : Nat) :
    ∀ (d y l : Nat) (σ : fx_M) (s : Int), y + d = bc → x ≤ y → l ≤ 1000 → SK R C m σ → σ 7 0 8 = (l : Int) → (∀ c, c < bc → BM (σ 9 0 c) (colM R C pr pc t (b + 1) c)) → BM s (fun i => decide (i < R * C) && decide ((x ≤ pc (ki C i) ∧ pc (ki C i) < y) ∧ t ≤ pr (ki C i) ∧ pr (ki C i) < b + 1)) →
    ∃ σ' v5 v6, fx_E (fx_S Rf Cf nc) 29 23 [some (.inr (some (7, 0))), some (.inl (t : Int)), some (.inl (b : Int)), some (.inl (bc : Int)), some (.inl (x : Int)), some (.inl s), some (.inl (y : Int))] [] σ = fx_E (fx_S Rf Cf nc) 29 3 [some (.inr (some (7, 0))), some (.inl (t : Int)), some (.inl (b : Int)), some (.inl (bc : Int)), some (.inl ((x + 1 : Nat) : Int)), v5, v6] [] σ' ∧ TB 0 σ σ' (gsc l (bd3 R C m bc pr pc fs t b x y)) := by
  intro d
  induction d with
  | zero =>
    intro y l σ s hy hxy hl hK h8 hc hs
    obtain rfl : y = bc := by omega
    refine ⟨σ, some (.inl s), some (.inl (y : Int)), ?_, by rw [bd3_ge (Nat.le_refl _)]; exact TB.refl 0 h8⟩
    rw [eX2_tryColumns_23]
    simp (disch := omega) only [eX2_tryColumns_0, eX2_tryColumns_1, eX2_tryColumns_5, eX2_tryColumns_6, eX2_tryColumns_9, eX2_tryColumns_10, eX2_tryColumns_13, eX2_tryColumns_16, eX2_tryColumns_17, eX2_tryColumns_19, eX2_tryColumns_21, eX2_tryColumns_25, eX2_tryColumns_26, eX2_tryColumns_29, eX2_tryColumns_30, eX2_tryColumns_33, eX2_tryColumns_36, eX2_tryColumns_38, eX2_tryColumns_39, eX2_tryColumns_42, eX2_tryColumns_44, eX2_tryColumns_45, eX2_tryColumns_46, eX2_tryColumns_48, eX2_tryColumns_49, eX2_tryColumns_50, eX2_tryColumns_53, eX2_tryColumns_54, eX2_tryColumns_56, eX2_tryColumns_59, eX2_tryColumns_62, eX2_tryColumns_65, eX2_tryColumns_66, eX2_tryColumns_69, eX2_tryColumns_72, eX2_tryColumns_73, eX2_tryColumns_76, eX2_tryColumns_77, eX2_tryColumns_78, eX2_tryColumns_80, eX2_tryColumns_82, eX2_tryColumns_85, eX2_tryColumns_88, eX2_tryColumns_91, eX2_tryColumns_94, eX2_tryColumns_97, fx_bd_some, Option.toList_some, Option.toList_none, List.nil_append, List.cons_append, fx_uo, fx_ui, Int.toNat_natCast, ↓reduceIte, Int.reduceEq, Int.reduceLT, Int.reduceLE, Int.reduceNeg]
    rw [if_neg (by omega), show (x : Int) + 1 = ((x + 1 : Nat) : Int) by omega]
  | succ d ih =>
    intro y l σ s hy hxy hl hK h8 hc hs
    by_cases hl0 : l = 0
    · subst hl0
      refine ⟨σ, some (.inl s), some (.inl (y : Int)), ?_, by rw [gsc_zero]; exact TB.refl 0 h8⟩
      rw [eX2_tryColumns_23]
      simp (disch := omega) only [eX2_tryColumns_0, eX2_tryColumns_1, eX2_tryColumns_5, eX2_tryColumns_6, eX2_tryColumns_9, eX2_tryColumns_10, eX2_tryColumns_13, eX2_tryColumns_16, eX2_tryColumns_17, eX2_tryColumns_19, eX2_tryColumns_21, eX2_tryColumns_25, eX2_tryColumns_26, eX2_tryColumns_29, eX2_tryColumns_30, eX2_tryColumns_33, eX2_tryColumns_36, eX2_tryColumns_38, eX2_tryColumns_39, eX2_tryColumns_42, eX2_tryColumns_44, eX2_tryColumns_45, eX2_tryColumns_46, eX2_tryColumns_48, eX2_tryColumns_49, eX2_tryColumns_50, eX2_tryColumns_53, eX2_tryColumns_54, eX2_tryColumns_56, eX2_tryColumns_59, eX2_tryColumns_62, eX2_tryColumns_65, eX2_tryColumns_66, eX2_tryColumns_69, eX2_tryColumns_72, eX2_tryColumns_73, eX2_tryColumns_76, eX2_tryColumns_77, eX2_tryColumns_78, eX2_tryColumns_80, eX2_tryColumns_82, eX2_tryColumns_85, eX2_tryColumns_88, eX2_tryColumns_91, eX2_tryColumns_94, eX2_tryColumns_97, fx_bd_some, Option.toList_some, Option.toList_none, List.nil_append, List.cons_append, fx_uo, fx_ui, Int.toNat_natCast, ↓reduceIte, Int.reduceEq, Int.reduceLT, Int.reduceLE, Int.reduceNeg, h8]
      rw [if_pos (by omega), if_neg (by omega), show (x : Int) + 1 = ((x + 1 : Nat) : Int) by omega]
    · have hs' : BM ((Int32.ofInt s ||| Int32.ofInt (σ 9 0 y)).toInt) (fun i => decide (i < R * C) && decide ((x ≤ pc (ki C i) ∧ pc (ki C i) < y + 1) ∧ t ≤ pr (ki C i) ∧ pr (ki C i) < b + 1)) := by
        refine (hs.or (hc y (by omega))).cg (fun i => ?_)
        unfold colM
        rw [← Bool.and_or_distrib_left, ← Bool.decide_or]
        congr 1
        refine decide_eq_decide.mpr ⟨fun q => by omega, fun q => by omega⟩
      obtain ⟨s', hse⟩ : ∃ s', s' = (Int32.ofInt s ||| Int32.ofInt (σ 9 0 y)).toInt := ⟨_, rfl⟩
      rw [← hse] at hs'
      obtain ⟨D, hD⟩ : ∃ D, D = dif R C m pr pc (inR t b x y) := ⟨_, rfl⟩
      have e1 := sp_differ Rf Cf nc hK pr pc (inR t b x y) hs' (fun i hi => by
        unfold inR
        rw [decide_eq_true hi, Bool.true_and]
        refine decide_eq_decide.mpr ⟨fun q => by omega, fun q => by omega⟩)
      rw [← hD] at e1
      have hD16 : D ≤ 144 := by rw [hD]; exact cntP_le _ _
      have hmin : min (l : Int) (D : Int) = ((min l D : Nat) : Int) := by omega
      rw [bd3_lt (show y < bc by omega)]
      have hone : gsc l [bd4 R C m pr pc fs t b x y] = (min l D, if D = 0 then some (fs, some (t, b, x, y)) else none) := by
        rw [gsc_one (by omega)]
        simp only [bd4, ← hD]
      by_cases hD0 : D = 0
      · obtain ⟨τ, hτ⟩ : ∃ τ, τ = fx_up (fx_up (fx_up (fx_up (fx_up σ 7 0 8 0) 11 0 8 t) 11 0 9 b) 11 0 10 x) 11 0 11 y := ⟨_, rfl⟩
        have fτ : ∀ o k z, ¬ ((k = 0 ∧ o = 7 ∧ z = 8) ∨ (k = 0 ∧ o = 11 ∧ 8 ≤ z ∧ z < 12)) → τ o k z = σ o k z := fun o k z q => by
          rw [hτ]; unfold fx_up
          rw [if_neg (by omega), if_neg (by omega), if_neg (by omega), if_neg (by omega), if_neg (by omega)]
        have t8 : τ 7 0 8 = ((0 : Nat) : Int) := by
          rw [hτ, fx_uo (by omega), fx_uo (by omega), fx_uo (by omega), fx_uo (by omega), fx_ui, if_pos rfl]; rfl
        have hT : TB 0 σ τ (gsc l [bd4 R C m pr pc fs t b x y]) := by
          rw [hone, if_pos hD0]
          refine ⟨fun o k z q => fτ o k z (by omega), by rw [t8, hD0, Nat.min_zero], fun j hj => ?_⟩
          rcases (show j = 0 ∨ j = 1 ∨ j = 2 ∨ j = 3 by omega) with rfl | rfl | rfl | rfl
          all_goals
            rw [hτ]
            simp [fx_up, bvl, bvv]
        obtain ⟨σ', v5, v6, i1, i2⟩ := ih (y + 1) 0 τ s' (by omega) (by omega) (by omega) (hT.sk hK) t8 (fun c hc' => by rw [fτ _ _ _ (by omega)]; exact hc c hc') hs'
        refine ⟨σ', v5, v6, ?_, TB.tr (A := [bd4 R C m pr pc fs t b x y]) hT (by rw [hone, hD0, Nat.min_zero]; exact i2)⟩
        rw [eX2_tryColumns_23]
        have e0 : min (l : Int) 0 = 0 := by omega
        rw [hD0] at e1
        simp (disch := omega) only [eX2_tryColumns_0, eX2_tryColumns_1, eX2_tryColumns_5, eX2_tryColumns_6, eX2_tryColumns_9, eX2_tryColumns_10, eX2_tryColumns_13, eX2_tryColumns_16, eX2_tryColumns_17, eX2_tryColumns_19, eX2_tryColumns_21, eX2_tryColumns_25, eX2_tryColumns_26, eX2_tryColumns_29, eX2_tryColumns_30, eX2_tryColumns_33, eX2_tryColumns_36, eX2_tryColumns_38, eX2_tryColumns_39, eX2_tryColumns_42, eX2_tryColumns_44, eX2_tryColumns_45, eX2_tryColumns_46, eX2_tryColumns_48, eX2_tryColumns_49, eX2_tryColumns_50, eX2_tryColumns_53, eX2_tryColumns_54, eX2_tryColumns_56, eX2_tryColumns_59, eX2_tryColumns_62, eX2_tryColumns_65, eX2_tryColumns_66, eX2_tryColumns_69, eX2_tryColumns_72, eX2_tryColumns_73, eX2_tryColumns_76, eX2_tryColumns_77, eX2_tryColumns_78, eX2_tryColumns_80, eX2_tryColumns_82, eX2_tryColumns_85, eX2_tryColumns_88, eX2_tryColumns_91, eX2_tryColumns_94, eX2_tryColumns_97, fx_bd_some, Option.toList_some, Option.toList_none, List.nil_append, List.cons_append, fx_uo, fx_ui, Int.toNat_natCast, ↓reduceIte, Int.reduceEq, Int.reduceLT, Int.reduceLE, Int.reduceNeg, h8, ← hse, e1, ic0, e0, sp_setBoard]
        rw [if_pos (by omega), if_pos (by omega), show (y : Int) + 1 = ((y + 1 : Nat) : Int) by omega, ← hτ]
        exact i1
      · obtain ⟨τ, hτ⟩ : ∃ τ, τ = fx_up σ 7 0 8 ((min l D : Nat) : Int) := ⟨_, rfl⟩
        have fτ : ∀ o k z, ¬ (k = 0 ∧ o = 7 ∧ z = 8) → τ o k z = σ o k z := fun o k z q => by
          rw [hτ]; unfold fx_up
          rw [if_neg (by omega)]
        have t8 : τ 7 0 8 = ((min l D : Nat) : Int) := by rw [hτ, fx_ui, if_pos rfl]
        have hT : TB 0 σ τ (gsc l [bd4 R C m pr pc fs t b x y]) := by
          rw [hone, if_neg hD0]
          exact ⟨fun o k z q => fτ o k z (by omega), t8, fun j hj => by rw [fτ _ _ _ (by omega)]; rfl⟩
        obtain ⟨σ', v5, v6, i1, i2⟩ := ih (y + 1) (min l D) τ s' (by omega) (by omega) (by omega) (hT.sk hK) t8 (fun c hc' => by rw [fτ _ _ _ (by omega)]; exact hc c hc') hs'
        refine ⟨σ', v5, v6, ?_, TB.tr (A := [bd4 R C m pr pc fs t b x y]) hT (by rw [hone]; exact i2)⟩
        rw [eX2_tryColumns_23]
        simp (disch := omega) only [eX2_tryColumns_0, eX2_tryColumns_1, eX2_tryColumns_5, eX2_tryColumns_6, eX2_tryColumns_9, eX2_tryColumns_10, eX2_tryColumns_13, eX2_tryColumns_16, eX2_tryColumns_17, eX2_tryColumns_19, eX2_tryColumns_21, eX2_tryColumns_25, eX2_tryColumns_26, eX2_tryColumns_29, eX2_tryColumns_30, eX2_tryColumns_33, eX2_tryColumns_36, eX2_tryColumns_38, eX2_tryColumns_39, eX2_tryColumns_42, eX2_tryColumns_44, eX2_tryColumns_45, eX2_tryColumns_46, eX2_tryColumns_48, eX2_tryColumns_49, eX2_tryColumns_50, eX2_tryColumns_53, eX2_tryColumns_54, eX2_tryColumns_56, eX2_tryColumns_59, eX2_tryColumns_62, eX2_tryColumns_65, eX2_tryColumns_66, eX2_tryColumns_69, eX2_tryColumns_72, eX2_tryColumns_73, eX2_tryColumns_76, eX2_tryColumns_77, eX2_tryColumns_78, eX2_tryColumns_80, eX2_tryColumns_82, eX2_tryColumns_85, eX2_tryColumns_88, eX2_tryColumns_91, eX2_tryColumns_94, eX2_tryColumns_97, fx_bd_some, Option.toList_some, Option.toList_none, List.nil_append, List.cons_append, fx_uo, fx_ui, Int.toNat_natCast, ↓reduceIte, Int.reduceEq, Int.reduceLT, Int.reduceLE, Int.reduceNeg, h8, ← hse, e1, hmin]
        rw [if_pos (by omega), if_pos (by omega), if_neg (by omega), show (y : Int) + 1 = ((y + 1 : Nat) : Int) by omega, ← hτ]
        exact i1
theorem tc_lp (Rf Cf : Nat → Nat) (nc : Nat) {R C m bc t b : Nat} {pr pc : Nat → Nat} (fs : List (Nat × Nat × Nat)) (hbc : bc ≤ 4) :
    ∀ (d x l : Nat) (σ : fx_M) (u5 u6 : Option fx_V), x + d = bc → l ≤ 1000 → SK R C m σ → σ 7 0 8 = (l : Int) → (∀ c, c < bc → BM (σ 9 0 c) (colM R C pr pc t (b + 1) c)) →
    ∃ σ', fx_E (fx_S Rf Cf nc) 29 3 [some (.inr (some (7, 0))), some (.inl (t : Int)), some (.inl (b : Int)), some (.inl (bc : Int)), some (.inl (x : Int)), u5, u6] [] σ = some (none, σ') ∧ TB 0 σ σ' (gsc l (bd2 R C m bc pr pc fs t b x)) := by
  intro d
  induction d with
  | zero =>
    intro x l σ u5 u6 hx hl hK h8 hc
    obtain rfl : x = bc := by omega
    refine ⟨σ, ?_, by rw [bd2_ge (Nat.le_refl _)]; exact TB.refl 0 h8⟩
    rw [eX2_tryColumns_3]
    simp (disch := omega) only [eX2_tryColumns_0, eX2_tryColumns_1, eX2_tryColumns_5, eX2_tryColumns_6, eX2_tryColumns_9, eX2_tryColumns_10, eX2_tryColumns_13, eX2_tryColumns_16, eX2_tryColumns_17, eX2_tryColumns_19, eX2_tryColumns_21, eX2_tryColumns_25, eX2_tryColumns_26, eX2_tryColumns_29, eX2_tryColumns_30, eX2_tryColumns_33, eX2_tryColumns_36, eX2_tryColumns_38, eX2_tryColumns_39, eX2_tryColumns_42, eX2_tryColumns_44, eX2_tryColumns_45, eX2_tryColumns_46, eX2_tryColumns_48, eX2_tryColumns_49, eX2_tryColumns_50, eX2_tryColumns_53, eX2_tryColumns_54, eX2_tryColumns_56, eX2_tryColumns_59, eX2_tryColumns_62, eX2_tryColumns_65, eX2_tryColumns_66, eX2_tryColumns_69, eX2_tryColumns_72, eX2_tryColumns_73, eX2_tryColumns_76, eX2_tryColumns_77, eX2_tryColumns_78, eX2_tryColumns_80, eX2_tryColumns_82, eX2_tryColumns_85, eX2_tryColumns_88, eX2_tryColumns_91, eX2_tryColumns_94, eX2_tryColumns_97, fx_bd_some, Option.toList_some, Option.toList_none, List.nil_append, List.cons_append, fx_uo, fx_ui, Int.toNat_natCast, ↓reduceIte, Int.reduceEq, Int.reduceLT, Int.reduceLE, Int.reduceNeg]
    rw [if_neg (by omega)]
  | succ d ih =>
    intro x l σ u5 u6 hx hl hK h8 hc
    by_cases hl0 : l = 0
    · subst hl0
      refine ⟨σ, ?_, by rw [gsc_zero]; exact TB.refl 0 h8⟩
      rw [eX2_tryColumns_3]
      simp (disch := omega) only [eX2_tryColumns_0, eX2_tryColumns_1, eX2_tryColumns_5, eX2_tryColumns_6, eX2_tryColumns_9, eX2_tryColumns_10, eX2_tryColumns_13, eX2_tryColumns_16, eX2_tryColumns_17, eX2_tryColumns_19, eX2_tryColumns_21, eX2_tryColumns_25, eX2_tryColumns_26, eX2_tryColumns_29, eX2_tryColumns_30, eX2_tryColumns_33, eX2_tryColumns_36, eX2_tryColumns_38, eX2_tryColumns_39, eX2_tryColumns_42, eX2_tryColumns_44, eX2_tryColumns_45, eX2_tryColumns_46, eX2_tryColumns_48, eX2_tryColumns_49, eX2_tryColumns_50, eX2_tryColumns_53, eX2_tryColumns_54, eX2_tryColumns_56, eX2_tryColumns_59, eX2_tryColumns_62, eX2_tryColumns_65, eX2_tryColumns_66, eX2_tryColumns_69, eX2_tryColumns_72, eX2_tryColumns_73, eX2_tryColumns_76, eX2_tryColumns_77, eX2_tryColumns_78, eX2_tryColumns_80, eX2_tryColumns_82, eX2_tryColumns_85, eX2_tryColumns_88, eX2_tryColumns_91, eX2_tryColumns_94, eX2_tryColumns_97, fx_bd_some, Option.toList_some, Option.toList_none, List.nil_append, List.cons_append, fx_uo, fx_ui, Int.toNat_natCast, ↓reduceIte, Int.reduceEq, Int.reduceLT, Int.reduceLE, Int.reduceNeg, h8]
      rw [if_pos (by omega), if_neg (by omega)]
    · obtain ⟨σ1, v5, v6, a1, a2⟩ := tc_in Rf Cf nc (m := m) (t := t) (b := b) fs hbc x (bc - x) x l σ 0 (by omega) (Nat.le_refl _) hl hK h8 hc (BM.zero.cg (fun i => by
        rw [decide_eq_false (p := (x ≤ pc (ki C i) ∧ pc (ki C i) < x) ∧ t ≤ pr (ki C i) ∧ pr (ki C i) < b + 1) (by omega)]
        simp))
      have hle := (gsc_le (bd3 R C m bc pr pc fs t b x x) l).1
      obtain ⟨σ', i1, i2⟩ := ih (x + 1) (gsc l (bd3 R C m bc pr pc fs t b x x)).1 σ1 v5 v6 (by omega) (by omega) (a2.sk hK) a2.2.1 (fun c hc' => by rw [a2.1 _ _ _ (by omega)]; exact hc c hc')
      refine ⟨σ', ?_, by rw [bd2_lt (show x < bc by omega)]; exact a2.tr i2⟩
      rw [eX2_tryColumns_3]
      simp (disch := omega) only [eX2_tryColumns_0, eX2_tryColumns_1, eX2_tryColumns_5, eX2_tryColumns_6, eX2_tryColumns_9, eX2_tryColumns_10, eX2_tryColumns_13, eX2_tryColumns_16, eX2_tryColumns_17, eX2_tryColumns_19, eX2_tryColumns_21, eX2_tryColumns_25, eX2_tryColumns_26, eX2_tryColumns_29, eX2_tryColumns_30, eX2_tryColumns_33, eX2_tryColumns_36, eX2_tryColumns_38, eX2_tryColumns_39, eX2_tryColumns_42, eX2_tryColumns_44, eX2_tryColumns_45, eX2_tryColumns_46, eX2_tryColumns_48, eX2_tryColumns_49, eX2_tryColumns_50, eX2_tryColumns_53, eX2_tryColumns_54, eX2_tryColumns_56, eX2_tryColumns_59, eX2_tryColumns_62, eX2_tryColumns_65, eX2_tryColumns_66, eX2_tryColumns_69, eX2_tryColumns_72, eX2_tryColumns_73, eX2_tryColumns_76, eX2_tryColumns_77, eX2_tryColumns_78, eX2_tryColumns_80, eX2_tryColumns_82, eX2_tryColumns_85, eX2_tryColumns_88, eX2_tryColumns_91, eX2_tryColumns_94, eX2_tryColumns_97, fx_bd_some, Option.toList_some, Option.toList_none, List.nil_append, List.cons_append, fx_uo, fx_ui, Int.toNat_natCast, ↓reduceIte, Int.reduceEq, Int.reduceLT, Int.reduceLE, Int.reduceNeg, h8]
      rw [if_pos (by omega), if_pos (by omega)]
      exact a1.trans i1
theorem sp_tryColumns (Rf Cf : Nat → Nat) (nc : Nat) {R C m bc t b l : Nat} {pr pc : Nat → Nat} (fs : List (Nat × Nat × Nat)) (hbc : bc ≤ 4) {σ : fx_M} (hl : l ≤ 1000) (hK : SK R C m σ) (h8 : σ 7 0 8 = (l : Int)) (hc : ∀ c, c < bc → BM (σ 9 0 c) (colM R C pr pc t (b + 1) c)) :
    ∃ σ', fx_Ca (fx_S Rf Cf nc) 29 [.inr (some (7, 0)), .inl (t : Int), .inl (b : Int), .inl (bc : Int)] σ = some (none, σ') ∧ TB 0 σ σ' (gsc l (bd2 R C m bc pr pc fs t b 0)) := by
  obtain ⟨σ', a1, a2⟩ := tc_lp Rf Cf nc fs hbc bc 0 l σ none none (by omega) hl hK h8 hc
  rw [ic0] at a1
  refine ⟨σ', ?_, a2⟩
  rw [entX2_tryColumns]
  simp only [eX2_tryColumns_0, eX2_tryColumns_1, eX2_tryColumns_5, eX2_tryColumns_6, eX2_tryColumns_9, eX2_tryColumns_10, eX2_tryColumns_13, eX2_tryColumns_16, eX2_tryColumns_17, eX2_tryColumns_19, eX2_tryColumns_21, eX2_tryColumns_25, eX2_tryColumns_26, eX2_tryColumns_29, eX2_tryColumns_30, eX2_tryColumns_33, eX2_tryColumns_36, eX2_tryColumns_38, eX2_tryColumns_39, eX2_tryColumns_42, eX2_tryColumns_44, eX2_tryColumns_45, eX2_tryColumns_46, eX2_tryColumns_48, eX2_tryColumns_49, eX2_tryColumns_50, eX2_tryColumns_53, eX2_tryColumns_54, eX2_tryColumns_56, eX2_tryColumns_59, eX2_tryColumns_62, eX2_tryColumns_65, eX2_tryColumns_66, eX2_tryColumns_69, eX2_tryColumns_72, eX2_tryColumns_73, eX2_tryColumns_76, eX2_tryColumns_77, eX2_tryColumns_78, eX2_tryColumns_80, eX2_tryColumns_82, eX2_tryColumns_85, eX2_tryColumns_88, eX2_tryColumns_91, eX2_tryColumns_94, eX2_tryColumns_97]
  exact a1
