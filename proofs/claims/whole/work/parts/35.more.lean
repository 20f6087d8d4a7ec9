/-! period -/
theorem per_lp (Rf Cf : Nat → Nat) (nc : Nat) {σ : fx_M} {g w R C most : Nat} {dp : Nat → Int} (hg : g < 7) (hRf : Rf g = R ∧ Cf g = C) (hR : R ≤ 12) (hC : C ≤ 12) (hw : w < 2) (hmost : most = if w = 0 then C else R) (hD : DC g R C dp σ) (hM : DM g R C dp σ) (u1 u2 : Option fx_V) :
    ∀ (d p : Nat), p + d = most → 1 ≤ p → ∃ v : Int, fx_E (fx_S Rf Cf nc) 55 41 [u1, u2, some (.inl (w : Int)), some (.inr (some (12, g))), some (.inl (most : Int)), some (.inl (p : Int))] [] σ = some (some (.inl v), σ) ∧ fx_E (fx_S Rf Cf nc) 110 21 [some (.inr (some (20, 0))), some (.inl (g : Int)), some (.inl (w : Int)), some (.inl (p : Int))] [] σ = some (some (.inl v), σ) := by
  have hm12 : most ≤ 12 := by rw [hmost]; split <;> omega
  intro d
  induction d with
  | zero =>
    intro p hp h1
    obtain rfl : p = most := by omega
    obtain ⟨x, x1, x2⟩ := sp_goesOn Rf Cf nc (p := p) hg hR hC hw hm12 hM
    have hx : x = 1 := by
      rcases x2 with ⟨x2, r', n', x3, x4, x5⟩ | ⟨x2, -⟩
      · exfalso
        apply x5
        intro y1 y2
        rcases (show w = 0 ∨ w = 1 by omega) with rfl | rfl
        · simp at y2 hmost; omega
        · simp at y1 hmost; omega
      · exact x2
    subst hx
    clear x2
    refine ⟨p, ?_, ?_⟩
    · have a : ((p : Int) < (p : Int)) = False := by simp
      rw [eX6_period_41]
      simp (disch := omega) only [eX6_period_0, eX6_period_1, eX6_period_2, eX6_period_5, eX6_period_6, eX6_period_7_n, eX6_period_7_s, eX6_period_10, eX6_period_11, eX6_period_14, eX6_period_15, eX6_period_16, eX6_period_19, eX6_period_20, eX6_period_21, eX6_period_22, eX6_period_25, eX6_period_26, eX6_period_29, eX6_period_32, eX6_period_33, eX6_period_36, eX6_period_38, eX6_period_39, eX6_period_43, eX6_period_45, eX6_period_48, eX6_period_49, eX6_period_50, eX6_period_52, eX6_period_55, eX6_period_58, eX6_period_61, eX6_period_64, eX6_period_66, fx_bd_some, Option.toList_some, Option.toList_none, List.nil_append, List.cons_append, fx_uo, fx_ui, Int.toNat_natCast, ↓reduceIte, Int.reduceEq, Int.reduceLT, Int.reduceLE, Int.reduceNeg, a]
    · rw [eX7_period_21]
      simp (disch := omega) only [eX7_period_0, eX7_period_1, eX7_period_2, eX7_period_5, eX7_period_8, eX7_period_9, eX7_period_10, eX7_period_11, eX7_period_14, eX7_period_17, eX7_period_18, eX7_period_19, eX7_period_20, eX7_period_22, eX7_period_23, eX7_period_24, eX7_period_25, eX7_period_28, eX7_period_31, eX7_period_34, eX7_period_37, eX7_period_38, fx_bd_some, Option.toList_some, Option.toList_none, List.nil_append, List.cons_append, fx_uo, fx_ui, Int.toNat_natCast, ↓reduceIte, Int.reduceEq, Int.reduceLT, Int.reduceLE, Int.reduceNeg, x1]
  | succ d ih =>
    intro p hp h1
    obtain ⟨x, x1, x2⟩ := sp_goesOn Rf Cf nc (p := p) hg hR hC hw (by omega) hM
    obtain ⟨y, y1, y2⟩ := sp_repeats Rf Cf nc (p := p) hRf hR hC hw (by omega) hD
    have hxy : x = y ∧ (y = 0 ∨ y = 1) := by
      rcases x2 with ⟨a1, r', n', a2, a3, a4⟩ | ⟨a1, a2⟩ <;> rcases y2 with ⟨c1, r'', n'', c2, c3, c4⟩ | ⟨c1, c2⟩
      · exact ⟨by rw [a1, c1], Or.inl c1⟩
      · exact absurd (c2 r' n' a2 a3) a4
      · exact absurd (a2 r'' n'' c2 c3) c4
      · exact ⟨by rw [a1, c1], Or.inr c1⟩
    clear x2 y2
    obtain ⟨rfl, hv⟩ := hxy
    have a : ((p : Int) < (most : Int)) = True := eq_true (by omega)
    rw [eX6_period_41, eX7_period_21]
    rcases hv with rfl | rfl
    · simp (disch := omega) only [eX6_period_0, eX6_period_1, eX6_period_2, eX6_period_5, eX6_period_6, eX6_period_7_n, eX6_period_7_s, eX6_period_10, eX6_period_11, eX6_period_14, eX6_period_15, eX6_period_16, eX6_period_19, eX6_period_20, eX6_period_21, eX6_period_22, eX6_period_25, eX6_period_26, eX6_period_29, eX6_period_32, eX6_period_33, eX6_period_36, eX6_period_38, eX6_period_39, eX6_period_43, eX6_period_45, eX6_period_48, eX6_period_49, eX6_period_50, eX6_period_52, eX6_period_55, eX6_period_58, eX6_period_61, eX6_period_64, eX6_period_66, eX7_period_0, eX7_period_1, eX7_period_2, eX7_period_5, eX7_period_8, eX7_period_9, eX7_period_10, eX7_period_11, eX7_period_14, eX7_period_17, eX7_period_18, eX7_period_19, eX7_period_20, eX7_period_22, eX7_period_23, eX7_period_24, eX7_period_25, eX7_period_28, eX7_period_31, eX7_period_34, eX7_period_37, eX7_period_38, fx_bd_some, Option.toList_some, Option.toList_none, List.nil_append, List.cons_append, fx_uo, fx_ui, Int.toNat_natCast, ↓reduceIte, Int.reduceEq, Int.reduceLT, Int.reduceLE, Int.reduceNeg, a, x1, y1]
      rw [show (p : Int) + 1 = ((p + 1 : Nat) : Int) by omega]
      exact ih (p + 1) (by omega) (by omega)
    · simp (disch := omega) only [eX6_period_0, eX6_period_1, eX6_period_2, eX6_period_5, eX6_period_6, eX6_period_7_n, eX6_period_7_s, eX6_period_10, eX6_period_11, eX6_period_14, eX6_period_15, eX6_period_16, eX6_period_19, eX6_period_20, eX6_period_21, eX6_period_22, eX6_period_25, eX6_period_26, eX6_period_29, eX6_period_32, eX6_period_33, eX6_period_36, eX6_period_38, eX6_period_39, eX6_period_43, eX6_period_45, eX6_period_48, eX6_period_49, eX6_period_50, eX6_period_52, eX6_period_55, eX6_period_58, eX6_period_61, eX6_period_64, eX6_period_66, eX7_period_0, eX7_period_1, eX7_period_2, eX7_period_5, eX7_period_8, eX7_period_9, eX7_period_10, eX7_period_11, eX7_period_14, eX7_period_17, eX7_period_18, eX7_period_19, eX7_period_20, eX7_period_22, eX7_period_23, eX7_period_24, eX7_period_25, eX7_period_28, eX7_period_31, eX7_period_34, eX7_period_37, eX7_period_38, fx_bd_some, Option.toList_some, Option.toList_none, List.nil_append, List.cons_append, fx_uo, fx_ui, Int.toNat_natCast, ↓reduceIte, Int.reduceEq, Int.reduceLT, Int.reduceLE, Int.reduceNeg, a, x1, y1]
      exact ⟨p, rfl, rfl⟩
theorem ag_period (Rf Cf : Nat → Nat) (nc : Nat) {σ : fx_M} (h : Inv Rf Cf nc σ) (c w : Int) (hc : fx_in c) (hw : fx_in w) : Ag Rf Cf nc 55 110 [.inl c, .inl w] σ := by
  by_cases q : 0 ≤ c ∧ c < nc
  · obtain ⟨g, rfl⟩ : ∃ g : Nat, c = g := ⟨c.toNat, by omega⟩
    have hg : g < nc := by omega
    have hn := h.1.1
    obtain ⟨R, C, br, bc, f, b, so, pr, pc, ph, sh, to, dp, k1, k2, k3⟩ := h.2.1 g hg
    have e1 := h.clY hg
    have e2 := Inv.mcY (Rf := Rf) (Cf := Cf) h.1 hg
    have b1 := k1.1.1
    have b3 := k1.1.2.1
    have s1 : σ 12 g 0 = R := k2.2.2.1.1
    have s2 : σ 12 g 1 = C := k2.2.2.1.2.1
    by_cases qw : 0 ≤ w ∧ w ≤ 1
    · rcases (show w = 0 ∨ w = 1 by omega) with rfl | rfl
      · obtain ⟨v, v1, v2⟩ := per_lp Rf Cf nc (w := 0) (most := C) (g := g) (by omega) k2.1 b1.2 b3.2 (by omega) rfl (k2.dc k1) (k3.dm k1) (some (.inr (some (0, 0)))) (some (.inl (g : Int))) (C - 1) 1 (by omega) (by omega)
        simp only [ic0, ic1] at v1 v2
        refine Ag.same h v ?_ ?_
        · rw [entX6_period]
          simp (disch := omega) only [eX6_period_0, eX6_period_1, eX6_period_2, eX6_period_5, eX6_period_6, eX6_period_7_n, eX6_period_7_s, eX6_period_10, eX6_period_11, eX6_period_14, eX6_period_15, eX6_period_16, eX6_period_19, eX6_period_20, eX6_period_21, eX6_period_22, eX6_period_25, eX6_period_26, eX6_period_29, eX6_period_32, eX6_period_33, eX6_period_36, eX6_period_38, eX6_period_39, eX6_period_43, eX6_period_45, eX6_period_48, eX6_period_49, eX6_period_50, eX6_period_52, eX6_period_55, eX6_period_58, eX6_period_61, eX6_period_64, eX6_period_66, fx_bd_some, Option.toList_some, Option.toList_none, List.nil_append, List.cons_append, fx_uo, fx_ui, Int.toNat_natCast, ↓reduceIte, Int.reduceEq, Int.reduceLT, Int.reduceLE, Int.reduceNeg, e1, s1, s2]
          exact v1
        · rw [entX7_period]
          simp (disch := omega) only [eX7_period_0, eX7_period_1, eX7_period_2, eX7_period_5, eX7_period_8, eX7_period_9, eX7_period_10, eX7_period_11, eX7_period_14, eX7_period_17, eX7_period_18, eX7_period_19, eX7_period_20, eX7_period_22, eX7_period_23, eX7_period_24, eX7_period_25, eX7_period_28, eX7_period_31, eX7_period_34, eX7_period_37, eX7_period_38, fx_bd_some, Option.toList_some, Option.toList_none, List.nil_append, List.cons_append, fx_uo, fx_ui, Int.toNat_natCast, ↓reduceIte, Int.reduceEq, Int.reduceLT, Int.reduceLE, Int.reduceNeg, e2, sp_within, Int.reduceLE, and_self]
          exact v2
      · obtain ⟨v, v1, v2⟩ := per_lp Rf Cf nc (w := 1) (most := R) (g := g) (by omega) k2.1 b1.2 b3.2 (by omega) rfl (k2.dc k1) (k3.dm k1) (some (.inr (some (0, 0)))) (some (.inl (g : Int))) (R - 1) 1 (by omega) (by omega)
        simp only [ic1] at v1 v2
        refine Ag.same h v ?_ ?_
        · rw [entX6_period]
          simp (disch := omega) only [eX6_period_0, eX6_period_1, eX6_period_2, eX6_period_5, eX6_period_6, eX6_period_7_n, eX6_period_7_s, eX6_period_10, eX6_period_11, eX6_period_14, eX6_period_15, eX6_period_16, eX6_period_19, eX6_period_20, eX6_period_21, eX6_period_22, eX6_period_25, eX6_period_26, eX6_period_29, eX6_period_32, eX6_period_33, eX6_period_36, eX6_period_38, eX6_period_39, eX6_period_43, eX6_period_45, eX6_period_48, eX6_period_49, eX6_period_50, eX6_period_52, eX6_period_55, eX6_period_58, eX6_period_61, eX6_period_64, eX6_period_66, fx_bd_some, Option.toList_some, Option.toList_none, List.nil_append, List.cons_append, fx_uo, fx_ui, Int.toNat_natCast, ↓reduceIte, Int.reduceEq, Int.reduceLT, Int.reduceLE, Int.reduceNeg, e1, s1, s2]
          exact v1
        · rw [entX7_period]
          simp (disch := omega) only [eX7_period_0, eX7_period_1, eX7_period_2, eX7_period_5, eX7_period_8, eX7_period_9, eX7_period_10, eX7_period_11, eX7_period_14, eX7_period_17, eX7_period_18, eX7_period_19, eX7_period_20, eX7_period_22, eX7_period_23, eX7_period_24, eX7_period_25, eX7_period_28, eX7_period_31, eX7_period_34, eX7_period_37, eX7_period_38, fx_bd_some, Option.toList_some, Option.toList_none, List.nil_append, List.cons_append, fx_uo, fx_ui, Int.toNat_natCast, ↓reduceIte, Int.reduceEq, Int.reduceLT, Int.reduceLE, Int.reduceNeg, e2, sp_within, Int.reduceLE, and_self]
          exact v2
    · refine Ag.same h (-1) ?_ ?_
      · rw [entX6_period]
        by_cases q2 : w < 0
        · simp (disch := omega) only [eX6_period_0, eX6_period_1, eX6_period_2, eX6_period_5, eX6_period_6, eX6_period_7_n, eX6_period_7_s, eX6_period_10, eX6_period_11, eX6_period_14, eX6_period_15, eX6_period_16, eX6_period_19, eX6_period_20, eX6_period_22, eX6_period_25, eX6_period_26, eX6_period_29, eX6_period_32, eX6_period_33, eX6_period_36, eX6_period_38, eX6_period_39, eX6_period_43, eX6_period_45, eX6_period_48, eX6_period_49, eX6_period_50, eX6_period_52, eX6_period_55, eX6_period_58, eX6_period_61, eX6_period_64, eX6_period_66, fx_bd_some, Option.toList_some, Option.toList_none, List.nil_append, List.cons_append, fx_uo, fx_ui, Int.toNat_natCast, ↓reduceIte, Int.reduceEq, Int.reduceLT, Int.reduceLE, Int.reduceNeg, e1, eq_true q2]
        · simp (disch := omega) only [eX6_period_0, eX6_period_1, eX6_period_2, eX6_period_5, eX6_period_6, eX6_period_7_n, eX6_period_7_s, eX6_period_10, eX6_period_11, eX6_period_14, eX6_period_15, eX6_period_16, eX6_period_19, eX6_period_20, eX6_period_22, eX6_period_25, eX6_period_26, eX6_period_29, eX6_period_32, eX6_period_33, eX6_period_36, eX6_period_38, eX6_period_39, eX6_period_43, eX6_period_45, eX6_period_48, eX6_period_49, eX6_period_50, eX6_period_52, eX6_period_55, eX6_period_58, eX6_period_61, eX6_period_64, eX6_period_66, fx_bd_some, Option.toList_some, Option.toList_none, List.nil_append, List.cons_append, fx_uo, fx_ui, Int.toNat_natCast, ↓reduceIte, Int.reduceEq, Int.reduceLT, Int.reduceLE, Int.reduceNeg, e1, eq_false q2, eq_true (show (1 : Int) < w by omega)]
      · rw [entX7_period]
        simp (disch := omega) only [eX7_period_0, eX7_period_1, eX7_period_2, eX7_period_5, eX7_period_8, eX7_period_9, eX7_period_10, eX7_period_11, eX7_period_14, eX7_period_17, eX7_period_18, eX7_period_20, eX7_period_22, eX7_period_23, eX7_period_24, eX7_period_25, eX7_period_28, eX7_period_31, eX7_period_34, eX7_period_37, eX7_period_38, fx_bd_some, Option.toList_some, Option.toList_none, List.nil_append, List.cons_append, fx_uo, fx_ui, Int.toNat_natCast, ↓reduceIte, Int.reduceEq, Int.reduceLT, Int.reduceLE, Int.reduceNeg, e2, sp_within, qw]
  · have e1 := h.clN hc q
    have e2 := Inv.mcN (Rf := Rf) (Cf := Cf) h.1 hc q
    refine Ag.same h (-1) ?_ ?_
    · rw [entX6_period]
      simp (disch := omega) only [eX6_period_0, eX6_period_1, eX6_period_2, eX6_period_5, eX6_period_6, eX6_period_7_n, eX6_period_7_s, eX6_period_10, eX6_period_11, eX6_period_14, eX6_period_15, eX6_period_16, eX6_period_19, eX6_period_20, eX6_period_21, eX6_period_22, eX6_period_25, eX6_period_26, eX6_period_29, eX6_period_32, eX6_period_33, eX6_period_36, eX6_period_38, eX6_period_39, eX6_period_43, eX6_period_45, eX6_period_48, eX6_period_49, eX6_period_50, eX6_period_52, eX6_period_55, eX6_period_58, eX6_period_61, eX6_period_64, eX6_period_66, fx_bd_some, Option.toList_some, Option.toList_none, List.nil_append, List.cons_append, fx_uo, fx_ui, Int.toNat_natCast, ↓reduceIte, Int.reduceEq, Int.reduceLT, Int.reduceLE, Int.reduceNeg, e1]
    · rw [entX7_period]
      simp (disch := omega) only [eX7_period_0, eX7_period_1, eX7_period_2, eX7_period_5, eX7_period_8, eX7_period_9, eX7_period_10, eX7_period_11, eX7_period_14, eX7_period_17, eX7_period_18, eX7_period_19, eX7_period_20, eX7_period_22, eX7_period_23, eX7_period_24, eX7_period_25, eX7_period_28, eX7_period_31, eX7_period_34, eX7_period_37, eX7_period_38, fx_bd_some, Option.toList_some, Option.toList_none, List.nil_append, List.cons_append, fx_uo, fx_ui, Int.toNat_natCast, ↓reduceIte, Int.reduceEq, Int.reduceLT, Int.reduceLE, Int.reduceNeg, e2]
/-! steps -/
theorem ag_steps (Rf Cf : Nat → Nat) (nc : Nat) {σ : fx_M} (h : Inv Rf Cf nc σ) (c o : Int) (hc : fx_in c) (ho : fx_in o) : Ag Rf Cf nc 56 111 [.inl c, .inl o] σ := by
  by_cases q : 0 ≤ c ∧ c < nc
  · obtain ⟨g, rfl⟩ : ∃ g : Nat, c = g := ⟨c.toNat, by omega⟩
    have hg : g < nc := by omega
    have hn := h.1.1
    have e1 := h.clY hg
    have e2 := Inv.mcY (Rf := Rf) (Cf := Cf) h.1 hg
    by_cases q' : 0 ≤ o ∧ o < nc
    · obtain ⟨g', rfl⟩ : ∃ g : Nat, o = g := ⟨o.toNat, by omega⟩
      have hg' : g' < nc := by omega
      have e3 := h.clY hg'
      have e4 := Inv.mcY (Rf := Rf) (Cf := Cf) h.1 hg'
      obtain ⟨R, C, br, bc, f, b, so, pr, pc, ph, sh, to, dp, k1, k2, k3⟩ := h.2.1 g hg
      obtain ⟨R', C', br', bc', f', b', so', pr', pc', ph', sh', to', dq, l1, l2, l3⟩ := h.2.1 g' hg'
      have b1 := k1.1.1
      have b3 := k1.1.2.1
      have d1 := l1.1.1
      have d3 := l1.1.2.1
      have s1 : σ 12 g 0 = R := k2.2.2.1.1
      have s2 : σ 12 g 1 = C := k2.2.2.1.2.1
      have s3 : σ 12 g' 0 = R' := l2.2.2.1.1
      have s4 : σ 12 g' 1 = C' := l2.2.2.1.2.1
      have m1 : σ 30 0 g = R := k3.1.1
      have m2 : σ 31 0 g = C := k3.1.2.1
      have m3 : σ 30 0 g' = R' := l3.1.1
      have m4 : σ 31 0 g' = C' := l3.1.2.1
      by_cases hd : R = R' ∧ C = C'
      · obtain ⟨rfl, rfl⟩ := hd
        have v1 := stp_lp Rf Cf nc k2.1 l2.1 b1.2 b3.1 b3.2 (k2.dc k1) (l2.dc l1) (some (.inr (some (0, 0)))) (some (.inl (g : Int))) (some (.inl (g' : Int))) (R * C) 0 0 (by omega) rfl
        have v2 := stm_lp Rf Cf nc (c := g) (o := g') (by omega) (by omega) b1.2 b3.2 (k3.dm k1) (l3.dm l1) R 0 0 none none (by omega) (by rw [Nat.zero_mul]; rfl)
        have a1 : ((R : Int) = R) = True := by simp
        have a2 : ((C : Int) = C) = True := by simp
        refine Ag.same h (smZ (R * C) (fun i => abZ (dp (ki C i)) (dq (ki C i)))) ?_ ?_
        · rw [entX6_steps]
          simp (disch := omega) only [eX6_steps_0, eX6_steps_1, eX6_steps_2, eX6_steps_5, eX6_steps_6, eX6_steps_7, eX6_steps_8, eX6_steps_11, eX6_steps_13, eX6_steps_14_n, eX6_steps_14_s, eX6_steps_17, eX6_steps_19_n, eX6_steps_19_s, eX6_steps_22, eX6_steps_23, eX6_steps_24, eX6_steps_25, eX6_steps_28, eX6_steps_30, eX6_steps_33, eX6_steps_36, eX6_steps_37, eX6_steps_40, eX6_steps_42, eX6_steps_45, eX6_steps_48, eX6_steps_50, eX6_steps_51, eX6_steps_52, eX6_steps_54, eX6_steps_55, eX6_steps_59, eX6_steps_60, eX6_steps_63, eX6_steps_66, eX6_steps_68, eX6_steps_69, eX6_steps_72, eX6_steps_74, eX6_steps_75, eX6_steps_77, eX6_steps_80, eX6_steps_82, eX6_steps_83, eX6_steps_84, eX6_steps_87, eX6_steps_88, eX6_steps_90, eX6_steps_93, eX6_steps_96, eX6_steps_98, fx_bd_some, Option.toList_some, Option.toList_none, List.nil_append, List.cons_append, fx_uo, fx_ui, Int.toNat_natCast, ↓reduceIte, Int.reduceEq, Int.reduceLT, Int.reduceLE, Int.reduceNeg, e1, e3, s1, s2, s3, s4, a1, a2]
          exact v1
        · rw [entX7_steps]
          simp (disch := omega) only [eX7_steps_0, eX7_steps_1, eX7_steps_2, eX7_steps_5, eX7_steps_8, eX7_steps_9, eX7_steps_10, eX7_steps_13, eX7_steps_16, eX7_steps_17, eX7_steps_18, eX7_steps_19, eX7_steps_22, eX7_steps_23, eX7_steps_24, eX7_steps_25, eX7_steps_28, eX7_steps_29, eX7_steps_30, eX7_steps_33, eX7_steps_34, eX7_steps_37, eX7_steps_38, eX7_steps_39, eX7_steps_40, eX7_steps_43, eX7_steps_44, eX7_steps_45, eX7_steps_48, eX7_steps_50, eX7_steps_51, eX7_steps_52, eX7_steps_53, eX7_steps_54, eX7_steps_58, eX7_steps_59, eX7_steps_62, eX7_steps_63, eX7_steps_64, eX7_steps_67, eX7_steps_68, eX7_steps_72, eX7_steps_73, eX7_steps_76, eX7_steps_77, eX7_steps_78, eX7_steps_81, eX7_steps_82, eX7_steps_83, eX7_steps_85, eX7_steps_87, eX7_steps_90, eX7_steps_91, eX7_steps_92, eX7_steps_94, eX7_steps_96, eX7_steps_99, eX7_steps_100, eX7_steps_102, eX7_steps_103, eX7_steps_105, eX7_steps_108, eX7_steps_110, eX7_steps_111, eX7_steps_114, eX7_steps_116, eX7_steps_117, eX7_steps_118, eX7_steps_121, eX7_steps_124, eX7_steps_127, eX7_steps_130, eX7_steps_131, fx_bd_some, Option.toList_some, Option.toList_none, List.nil_append, List.cons_append, fx_uo, fx_ui, Int.toNat_natCast, ↓reduceIte, Int.reduceEq, Int.reduceLT, Int.reduceLE, Int.reduceNeg, e2, e4, m1, m2, m3, m4, a1, a2]
          exact v2
      · refine Ag.same h (-3) ?_ ?_
        · rw [entX6_steps]
          simp (disch := omega) only [eX6_steps_0, eX6_steps_1, eX6_steps_2, eX6_steps_5, eX6_steps_6, eX6_steps_7, eX6_steps_8, eX6_steps_11, eX6_steps_13, eX6_steps_14_n, eX6_steps_14_s, eX6_steps_17, eX6_steps_19_n, eX6_steps_19_s, eX6_steps_22, eX6_steps_23, eX6_steps_24, eX6_steps_25, eX6_steps_28, eX6_steps_30, eX6_steps_33, eX6_steps_36, eX6_steps_37, eX6_steps_40, eX6_steps_42, eX6_steps_45, eX6_steps_48, eX6_steps_50, eX6_steps_52, eX6_steps_54, eX6_steps_55, eX6_steps_59, eX6_steps_60, eX6_steps_63, eX6_steps_66, eX6_steps_68, eX6_steps_69, eX6_steps_72, eX6_steps_74, eX6_steps_75, eX6_steps_77, eX6_steps_80, eX6_steps_82, eX6_steps_83, eX6_steps_84, eX6_steps_87, eX6_steps_88, eX6_steps_90, eX6_steps_93, eX6_steps_96, eX6_steps_98, fx_bd_some, Option.toList_some, Option.toList_none, List.nil_append, List.cons_append, fx_uo, fx_ui, Int.toNat_natCast, ↓reduceIte, Int.reduceEq, Int.reduceLT, Int.reduceLE, Int.reduceNeg, e1, e3, s1, s2, s3, s4]
          by_cases a1 : R = R'
          · rw [if_pos (by omega), if_neg (by omega)]
          · rw [if_neg (by omega)]
        · rw [entX7_steps]
          simp (disch := omega) only [eX7_steps_0, eX7_steps_1, eX7_steps_2, eX7_steps_5, eX7_steps_8, eX7_steps_9, eX7_steps_10, eX7_steps_13, eX7_steps_16, eX7_steps_17, eX7_steps_18, eX7_steps_19, eX7_steps_22, eX7_steps_23, eX7_steps_24, eX7_steps_25, eX7_steps_28, eX7_steps_29, eX7_steps_30, eX7_steps_33, eX7_steps_34, eX7_steps_37, eX7_steps_38, eX7_steps_39, eX7_steps_40, eX7_steps_43, eX7_steps_44, eX7_steps_45, eX7_steps_48, eX7_steps_50, eX7_steps_52, eX7_steps_53, eX7_steps_54, eX7_steps_58, eX7_steps_59, eX7_steps_62, eX7_steps_63, eX7_steps_64, eX7_steps_67, eX7_steps_68, eX7_steps_72, eX7_steps_73, eX7_steps_76, eX7_steps_77, eX7_steps_78, eX7_steps_81, eX7_steps_82, eX7_steps_83, eX7_steps_85, eX7_steps_87, eX7_steps_90, eX7_steps_91, eX7_steps_92, eX7_steps_94, eX7_steps_96, eX7_steps_99, eX7_steps_100, eX7_steps_102, eX7_steps_103, eX7_steps_105, eX7_steps_108, eX7_steps_110, eX7_steps_111, eX7_steps_114, eX7_steps_116, eX7_steps_117, eX7_steps_118, eX7_steps_121, eX7_steps_124, eX7_steps_127, eX7_steps_130, eX7_steps_131, fx_bd_some, Option.toList_some, Option.toList_none, List.nil_append, List.cons_append, fx_uo, fx_ui, Int.toNat_natCast, ↓reduceIte, Int.reduceEq, Int.reduceLT, Int.reduceLE, Int.reduceNeg, e2, e4, m1, m2, m3, m4]
          by_cases a1 : R = R'
          · rw [if_pos (by omega), if_neg (by omega)]
          · rw [if_neg (by omega)]
    · have e3 := h.clN ho q'
      have e4 := Inv.mcN (Rf := Rf) (Cf := Cf) h.1 ho q'
      refine Ag.same h (-1) ?_ ?_
      · rw [entX6_steps]
        simp (disch := omega) only [eX6_steps_0, eX6_steps_1, eX6_steps_2, eX6_steps_5, eX6_steps_6, eX6_steps_7, eX6_steps_8, eX6_steps_11, eX6_steps_13, eX6_steps_14_n, eX6_steps_14_s, eX6_steps_17, eX6_steps_19_n, eX6_steps_19_s, eX6_steps_22, eX6_steps_23, eX6_steps_24, eX6_steps_25, eX6_steps_28, eX6_steps_30, eX6_steps_33, eX6_steps_36, eX6_steps_37, eX6_steps_40, eX6_steps_42, eX6_steps_45, eX6_steps_48, eX6_steps_50, eX6_steps_51, eX6_steps_52, eX6_steps_54, eX6_steps_55, eX6_steps_59, eX6_steps_60, eX6_steps_63, eX6_steps_66, eX6_steps_68, eX6_steps_69, eX6_steps_72, eX6_steps_74, eX6_steps_75, eX6_steps_77, eX6_steps_80, eX6_steps_82, eX6_steps_83, eX6_steps_84, eX6_steps_87, eX6_steps_88, eX6_steps_90, eX6_steps_93, eX6_steps_96, eX6_steps_98, fx_bd_some, Option.toList_some, Option.toList_none, List.nil_append, List.cons_append, fx_uo, fx_ui, Int.toNat_natCast, ↓reduceIte, Int.reduceEq, Int.reduceLT, Int.reduceLE, Int.reduceNeg, e1, e3]
      · rw [entX7_steps]
        simp (disch := omega) only [eX7_steps_0, eX7_steps_1, eX7_steps_2, eX7_steps_5, eX7_steps_8, eX7_steps_9, eX7_steps_10, eX7_steps_13, eX7_steps_16, eX7_steps_17, eX7_steps_18, eX7_steps_19, eX7_steps_22, eX7_steps_23, eX7_steps_24, eX7_steps_25, eX7_steps_28, eX7_steps_29, eX7_steps_30, eX7_steps_33, eX7_steps_34, eX7_steps_37, eX7_steps_38, eX7_steps_39, eX7_steps_40, eX7_steps_43, eX7_steps_44, eX7_steps_45, eX7_steps_48, eX7_steps_50, eX7_steps_51, eX7_steps_52, eX7_steps_53, eX7_steps_54, eX7_steps_58, eX7_steps_59, eX7_steps_62, eX7_steps_63, eX7_steps_64, eX7_steps_67, eX7_steps_68, eX7_steps_72, eX7_steps_73, eX7_steps_76, eX7_steps_77, eX7_steps_78, eX7_steps_81, eX7_steps_82, eX7_steps_83, eX7_steps_85, eX7_steps_87, eX7_steps_90, eX7_steps_91, eX7_steps_92, eX7_steps_94, eX7_steps_96, eX7_steps_99, eX7_steps_100, eX7_steps_102, eX7_steps_103, eX7_steps_105, eX7_steps_108, eX7_steps_110, eX7_steps_111, eX7_steps_114, eX7_steps_116, eX7_steps_117, eX7_steps_118, eX7_steps_121, eX7_steps_124, eX7_steps_127, eX7_steps_130, eX7_steps_131, fx_bd_some, Option.toList_some, Option.toList_none, List.nil_append, List.cons_append, fx_uo, fx_ui, Int.toNat_natCast, ↓reduceIte, Int.reduceEq, Int.reduceLT, Int.reduceLE, Int.reduceNeg, e2, e4]
  · have e1 := h.clN hc q
    have e2 := Inv.mcN (Rf := Rf) (Cf := Cf) h.1 hc q
    refine Ag.same h (-1) ?_ ?_
    · rw [entX6_steps]
      by_cases q' : 0 ≤ o ∧ o < nc
      · obtain ⟨g', rfl⟩ : ∃ g : Nat, o = g := ⟨o.toNat, by omega⟩
        have e3 := h.clY (show g' < nc by omega)
        simp (disch := omega) only [eX6_steps_0, eX6_steps_1, eX6_steps_2, eX6_steps_5, eX6_steps_6, eX6_steps_7, eX6_steps_8, eX6_steps_11, eX6_steps_13, eX6_steps_14_n, eX6_steps_14_s, eX6_steps_17, eX6_steps_19_n, eX6_steps_19_s, eX6_steps_22, eX6_steps_23, eX6_steps_24, eX6_steps_25, eX6_steps_28, eX6_steps_30, eX6_steps_33, eX6_steps_36, eX6_steps_37, eX6_steps_40, eX6_steps_42, eX6_steps_45, eX6_steps_48, eX6_steps_50, eX6_steps_51, eX6_steps_52, eX6_steps_54, eX6_steps_55, eX6_steps_59, eX6_steps_60, eX6_steps_63, eX6_steps_66, eX6_steps_68, eX6_steps_69, eX6_steps_72, eX6_steps_74, eX6_steps_75, eX6_steps_77, eX6_steps_80, eX6_steps_82, eX6_steps_83, eX6_steps_84, eX6_steps_87, eX6_steps_88, eX6_steps_90, eX6_steps_93, eX6_steps_96, eX6_steps_98, fx_bd_some, Option.toList_some, Option.toList_none, List.nil_append, List.cons_append, fx_uo, fx_ui, Int.toNat_natCast, ↓reduceIte, Int.reduceEq, Int.reduceLT, Int.reduceLE, Int.reduceNeg, e1, e3]
      · have e3 := h.clN ho q'
        simp (disch := omega) only [eX6_steps_0, eX6_steps_1, eX6_steps_2, eX6_steps_5, eX6_steps_6, eX6_steps_7, eX6_steps_8, eX6_steps_11, eX6_steps_13, eX6_steps_14_n, eX6_steps_14_s, eX6_steps_17, eX6_steps_19_n, eX6_steps_19_s, eX6_steps_22, eX6_steps_23, eX6_steps_24, eX6_steps_25, eX6_steps_28, eX6_steps_30, eX6_steps_33, eX6_steps_36, eX6_steps_37, eX6_steps_40, eX6_steps_42, eX6_steps_45, eX6_steps_48, eX6_steps_50, eX6_steps_51, eX6_steps_52, eX6_steps_54, eX6_steps_55, eX6_steps_59, eX6_steps_60, eX6_steps_63, eX6_steps_66, eX6_steps_68, eX6_steps_69, eX6_steps_72, eX6_steps_74, eX6_steps_75, eX6_steps_77, eX6_steps_80, eX6_steps_82, eX6_steps_83, eX6_steps_84, eX6_steps_87, eX6_steps_88, eX6_steps_90, eX6_steps_93, eX6_steps_96, eX6_steps_98, fx_bd_some, Option.toList_some, Option.toList_none, List.nil_append, List.cons_append, fx_uo, fx_ui, Int.toNat_natCast, ↓reduceIte, Int.reduceEq, Int.reduceLT, Int.reduceLE, Int.reduceNeg, e1, e3]
    · rw [entX7_steps]
      simp (disch := omega) only [eX7_steps_0, eX7_steps_1, eX7_steps_2, eX7_steps_5, eX7_steps_8, eX7_steps_9, eX7_steps_10, eX7_steps_13, eX7_steps_16, eX7_steps_17, eX7_steps_18, eX7_steps_19, eX7_steps_22, eX7_steps_23, eX7_steps_24, eX7_steps_25, eX7_steps_28, eX7_steps_29, eX7_steps_30, eX7_steps_33, eX7_steps_34, eX7_steps_37, eX7_steps_38, eX7_steps_39, eX7_steps_40, eX7_steps_43, eX7_steps_44, eX7_steps_45, eX7_steps_48, eX7_steps_50, eX7_steps_51, eX7_steps_52, eX7_steps_53, eX7_steps_54, eX7_steps_58, eX7_steps_59, eX7_steps_62, eX7_steps_63, eX7_steps_64, eX7_steps_67, eX7_steps_68, eX7_steps_72, eX7_steps_73, eX7_steps_76, eX7_steps_77, eX7_steps_78, eX7_steps_81, eX7_steps_82, eX7_steps_83, eX7_steps_85, eX7_steps_87, eX7_steps_90, eX7_steps_91, eX7_steps_92, eX7_steps_94, eX7_steps_96, eX7_steps_99, eX7_steps_100, eX7_steps_102, eX7_steps_103, eX7_steps_105, eX7_steps_108, eX7_steps_110, eX7_steps_111, eX7_steps_114, eX7_steps_116, eX7_steps_117, eX7_steps_118, eX7_steps_121, eX7_steps_124, eX7_steps_127, eX7_steps_130, eX7_steps_131, fx_bd_some, Option.toList_some, Option.toList_none, List.nil_append, List.cons_append, fx_uo, fx_ui, Int.toNat_natCast, ↓reduceIte, Int.reduceEq, Int.reduceLT, Int.reduceLE, Int.reduceNeg, e2]
/-! stack -/
theorem Inv.stk {Rf Cf : Nat → Nat} {nc : Nat} {σ σ' : fx_M} (h : Inv Rf Cf nc σ) (hs : ∀ o g i, ¬ (g = 0 ∧ (o = 50 ∨ o = 51)) → σ' o g i = σ o g i) : Inv Rf Cf nc σ' :=
  h.fr (fun o k x ho => hs o k x (by unfold gl at ho; omega)) (fun o k x h1 h2 _ => hs o k x (by omega)) (fun c o i _ h3 => hs o 0 i (by unfold inB at h3; omega))
theorem ag_stack (Rf Cf : Nat → Nat) (nc : Nat) {σ : fx_M} (h : Inv Rf Cf nc σ) (c p t : Int) (hc : fx_in c) (hp : fx_in p) (ht : fx_in t) : Ag Rf Cf nc 44 89 [.inl c, .inl p, .inl t] σ := by
  by_cases q : 0 ≤ c ∧ c < nc
  · obtain ⟨g, rfl⟩ : ∃ g : Nat, c = g := ⟨c.toNat, by omega⟩
    have hg : g < nc := by omega
    have hn := h.1.1
    have e1 := h.clY hg
    have e2 := Inv.mcY (Rf := Rf) (Cf := Cf) h.1 hg
    obtain ⟨R, C, br, bc, f, b, so, pr, pc, ph, sh, to, dp, k1, k2, k3⟩ := h.2.1 g hg
    obtain ⟨⟨b1, b2⟩, ⟨b3, b4⟩, ⟨b5, b6⟩, ⟨b7, b8⟩, b9, b10, b11⟩ := id k1.1
    have c2 : σ 15 g 5 = br := k2.2.1.2.2.1
    have c3 : σ 15 g 6 = bc := k2.2.1.2.2.2.1
    have m3 : σ 37 0 g = br := k3.1.2.2.1
    have m4 : σ 38 0 g = bc := k3.1.2.2.2.1
    by_cases hq : 0 ≤ p ∧ 0 ≤ t ∧ p / 24 < br ∧ p % 24 < bc
    · obtain ⟨σ', x1, x2, x3, x4⟩ := sp_stacks Rf Cf nc (c := g) (by omega) k1.1 k3.1
      obtain ⟨v, v1, v2⟩ := sp_cellAt Rf Cf nc k1.1 k2.2.1 k2.2.2.1.1 k2.2.2.1.2.1 (p / 24) (p % 24) t (by omega) (by omega) ht
      have i1 : (12 * (p / 24) + p % 24).toNat = 12 * (p / 24).toNat + (p % 24).toNat := by omega
      have hz := x3 (12 * (p / 24).toNat + (p % 24).toNat) (by omega)
      have hsz : szA R C br bc pr pc (p / 24) (p % 24) = siz R C pr pc (12 * (p / 24).toNat + (p % 24).toNat) := by unfold szA; rw [if_pos (by omega)]
      have hs24 := b10 (12 * (p / 24).toNat + (p % 24).toNat)
      refine ⟨v, σ, σ', ?_, ?_, h.stk x2⟩
      · rw [entX6_stack]
        simp (disch := omega) only [eX6_stack_0, eX6_stack_1, eX6_stack_2, eX6_stack_5, eX6_stack_7, eX6_stack_9_n, eX6_stack_9_s, eX6_stack_12, eX6_stack_13, eX6_stack_16, eX6_stack_17, eX6_stack_20, eX6_stack_21, eX6_stack_22, eX6_stack_23, eX6_stack_25, eX6_stack_26, eX6_stack_28, eX6_stack_29, eX6_stack_31, eX6_stack_32, eX6_stack_34, eX6_stack_36, eX6_stack_38, eX6_stack_41, eX6_stack_44, eX6_stack_47, eX6_stack_49, eX6_stack_51, eX6_stack_54, eX6_stack_57, eX6_stack_60, eX6_stack_61, eX6_stack_62, eX6_stack_64, eX6_stack_66, eX6_stack_68, eX6_stack_69, eX6_stack_72, fx_bd_some, Option.toList_some, Option.toList_none, List.nil_append, List.cons_append, fx_uo, fx_ui, Int.toNat_natCast, ↓reduceIte, Int.reduceEq, Int.reduceLT, Int.reduceLE, Int.reduceNeg, e1, c2, c3, v1]
        repeat (first | rw [if_pos (by omega)] | rw [if_neg (by omega)])
      · rw [entX7_stack]
        rcases v2 with ⟨k, ha, rfl⟩ | ⟨rfl, hno⟩
        · have hin := at_in k1.1 ha
          obtain ⟨a1, a2, a3, a4, a5⟩ := id ha
          have hl := x4 k a1 a2
          have i2 : (25 * (12 * (p / 24) + p % 24) + t).toNat = 25 * (12 * pr k + pc k) + ph k := by omega
          simp (disch := omega) only [eX7_stack_0, eX7_stack_1, eX7_stack_2, eX7_stack_5, eX7_stack_8, eX7_stack_9, eX7_stack_12, eX7_stack_13, eX7_stack_15, eX7_stack_16, eX7_stack_17, eX7_stack_20, eX7_stack_21, eX7_stack_22, eX7_stack_25, eX7_stack_26, eX7_stack_28, eX7_stack_29, eX7_stack_30, eX7_stack_33, eX7_stack_34, eX7_stack_35, eX7_stack_38, eX7_stack_39, eX7_stack_42, eX7_stack_43, eX7_stack_44, eX7_stack_45, eX7_stack_46, eX7_stack_49, eX7_stack_51, eX7_stack_52, eX7_stack_54, eX7_stack_55, eX7_stack_56, eX7_stack_57, eX7_stack_59, eX7_stack_60, eX7_stack_61, eX7_stack_63, eX7_stack_64, eX7_stack_65, eX7_stack_68, eX7_stack_70, eX7_stack_71, eX7_stack_74, eX7_stack_75, eX7_stack_78, eX7_stack_80, eX7_stack_82, eX7_stack_83, eX7_stack_84, eX7_stack_85, eX7_stack_86, eX7_stack_89, eX7_stack_91, fx_bd_some, Option.toList_some, Option.toList_none, List.nil_append, List.cons_append, fx_uo, fx_ui, Int.toNat_natCast, ↓reduceIte, Int.reduceEq, Int.reduceLT, Int.reduceLE, Int.reduceNeg, e2, m3, m4, x1, i1, hz, i2, hl]
          repeat (first | rw [if_pos (by omega)] | rw [if_neg (by omega)])
        · have hge : ¬ t < siz R C pr pc (12 * (p / 24).toNat + (p % 24).toNat) := fun hlt => by
            obtain ⟨j, hj⟩ := at_ex k1.1 (r := p / 24) (n := p % 24) (h := t) hq.2.1 (by rw [hsz]; exact hlt)
            exact hno j hj
          clear hno
          simp (disch := omega) only [eX7_stack_0, eX7_stack_1, eX7_stack_2, eX7_stack_5, eX7_stack_8, eX7_stack_9, eX7_stack_12, eX7_stack_13, eX7_stack_15, eX7_stack_16, eX7_stack_17, eX7_stack_20, eX7_stack_21, eX7_stack_22, eX7_stack_25, eX7_stack_26, eX7_stack_28, eX7_stack_29, eX7_stack_30, eX7_stack_33, eX7_stack_34, eX7_stack_35, eX7_stack_38, eX7_stack_39, eX7_stack_42, eX7_stack_43, eX7_stack_44, eX7_stack_45, eX7_stack_46, eX7_stack_49, eX7_stack_51, eX7_stack_52, eX7_stack_54, eX7_stack_55, eX7_stack_56, eX7_stack_57, eX7_stack_59, eX7_stack_60, eX7_stack_61, eX7_stack_63, eX7_stack_64, eX7_stack_65, eX7_stack_68, eX7_stack_70, eX7_stack_71, eX7_stack_75, eX7_stack_78, eX7_stack_80, eX7_stack_82, eX7_stack_83, eX7_stack_84, eX7_stack_85, eX7_stack_86, eX7_stack_89, eX7_stack_91, fx_bd_some, Option.toList_some, Option.toList_none, List.nil_append, List.cons_append, fx_uo, fx_ui, Int.toNat_natCast, ↓reduceIte, Int.reduceEq, Int.reduceLT, Int.reduceLE, Int.reduceNeg, e2, m3, m4, x1, i1, hz]
          repeat (first | rw [if_pos (by omega)] | rw [if_neg (by omega)])
    · refine Ag.same h (-1) ?_ ?_
      · rw [entX6_stack]
        by_cases q1 : p < 0
        · simp (disch := omega) only [eX6_stack_0, eX6_stack_1, eX6_stack_2, eX6_stack_5, eX6_stack_7, eX6_stack_9_n, eX6_stack_9_s, eX6_stack_12, eX6_stack_13, eX6_stack_16, eX6_stack_17, eX6_stack_20, eX6_stack_21, eX6_stack_23, eX6_stack_25, eX6_stack_26, eX6_stack_28, eX6_stack_29, eX6_stack_31, eX6_stack_32, eX6_stack_34, eX6_stack_36, eX6_stack_38, eX6_stack_41, eX6_stack_44, eX6_stack_47, eX6_stack_49, eX6_stack_51, eX6_stack_54, eX6_stack_57, eX6_stack_60, eX6_stack_61, eX6_stack_62, eX6_stack_64, eX6_stack_66, eX6_stack_68, eX6_stack_69, eX6_stack_72, fx_bd_some, Option.toList_some, Option.toList_none, List.nil_append, List.cons_append, fx_uo, fx_ui, Int.toNat_natCast, ↓reduceIte, Int.reduceEq, Int.reduceLT, Int.reduceLE, Int.reduceNeg, e1, eq_true q1]
        · by_cases q2 : t < 0
          · simp (disch := omega) only [eX6_stack_0, eX6_stack_1, eX6_stack_2, eX6_stack_5, eX6_stack_7, eX6_stack_9_n, eX6_stack_9_s, eX6_stack_12, eX6_stack_13, eX6_stack_16, eX6_stack_17, eX6_stack_20, eX6_stack_21, eX6_stack_23, eX6_stack_25, eX6_stack_26, eX6_stack_28, eX6_stack_29, eX6_stack_31, eX6_stack_32, eX6_stack_34, eX6_stack_36, eX6_stack_38, eX6_stack_41, eX6_stack_44, eX6_stack_47, eX6_stack_49, eX6_stack_51, eX6_stack_54, eX6_stack_57, eX6_stack_60, eX6_stack_61, eX6_stack_62, eX6_stack_64, eX6_stack_66, eX6_stack_68, eX6_stack_69, eX6_stack_72, fx_bd_some, Option.toList_some, Option.toList_none, List.nil_append, List.cons_append, fx_uo, fx_ui, Int.toNat_natCast, ↓reduceIte, Int.reduceEq, Int.reduceLT, Int.reduceLE, Int.reduceNeg, e1, eq_false q1]
            repeat (first | rw [if_pos (by omega)] | rw [if_neg (by omega)])
          · simp (disch := omega) only [eX6_stack_0, eX6_stack_1, eX6_stack_2, eX6_stack_5, eX6_stack_7, eX6_stack_9_n, eX6_stack_9_s, eX6_stack_12, eX6_stack_13, eX6_stack_16, eX6_stack_17, eX6_stack_20, eX6_stack_21, eX6_stack_22, eX6_stack_23, eX6_stack_25, eX6_stack_26, eX6_stack_28, eX6_stack_29, eX6_stack_31, eX6_stack_32, eX6_stack_34, eX6_stack_36, eX6_stack_38, eX6_stack_41, eX6_stack_44, eX6_stack_47, eX6_stack_49, eX6_stack_51, eX6_stack_54, eX6_stack_57, eX6_stack_60, eX6_stack_61, eX6_stack_64, eX6_stack_66, eX6_stack_68, eX6_stack_69, eX6_stack_72, fx_bd_some, Option.toList_some, Option.toList_none, List.nil_append, List.cons_append, fx_uo, fx_ui, Int.toNat_natCast, ↓reduceIte, Int.reduceEq, Int.reduceLT, Int.reduceLE, Int.reduceNeg, e1, eq_false q1, c2, c3]
            by_cases q3 : p / 24 < br
            · repeat (first | rw [if_pos (by omega)] | rw [if_neg (by omega)])
            · repeat (first | rw [if_pos (by omega)] | rw [if_neg (by omega)])
      · rw [entX7_stack]
        by_cases q1 : p < 0
        · simp (disch := omega) only [eX7_stack_0, eX7_stack_1, eX7_stack_2, eX7_stack_5, eX7_stack_8, eX7_stack_9, eX7_stack_13, eX7_stack_15, eX7_stack_16, eX7_stack_17, eX7_stack_20, eX7_stack_21, eX7_stack_22, eX7_stack_25, eX7_stack_26, eX7_stack_28, eX7_stack_29, eX7_stack_30, eX7_stack_33, eX7_stack_34, eX7_stack_35, eX7_stack_38, eX7_stack_39, eX7_stack_42, eX7_stack_43, eX7_stack_44, eX7_stack_45, eX7_stack_46, eX7_stack_49, eX7_stack_51, eX7_stack_52, eX7_stack_54, eX7_stack_55, eX7_stack_56, eX7_stack_57, eX7_stack_59, eX7_stack_60, eX7_stack_61, eX7_stack_63, eX7_stack_64, eX7_stack_65, eX7_stack_68, eX7_stack_70, eX7_stack_71, eX7_stack_74, eX7_stack_75, eX7_stack_78, eX7_stack_80, eX7_stack_82, eX7_stack_83, eX7_stack_84, eX7_stack_85, eX7_stack_86, eX7_stack_89, eX7_stack_91, fx_bd_some, Option.toList_some, Option.toList_none, List.nil_append, List.cons_append, fx_uo, fx_ui, Int.toNat_natCast, ↓reduceIte, Int.reduceEq, Int.reduceLT, Int.reduceLE, Int.reduceNeg, e2, eq_true q1]
        · simp (disch := omega) only [eX7_stack_0, eX7_stack_1, eX7_stack_2, eX7_stack_5, eX7_stack_8, eX7_stack_9, eX7_stack_12, eX7_stack_13, eX7_stack_15, eX7_stack_16, eX7_stack_17, eX7_stack_20, eX7_stack_21, eX7_stack_22, eX7_stack_25, eX7_stack_26, eX7_stack_28, eX7_stack_29, eX7_stack_30, eX7_stack_33, eX7_stack_34, eX7_stack_35, eX7_stack_38, eX7_stack_39, eX7_stack_42, eX7_stack_43, eX7_stack_45, eX7_stack_46, eX7_stack_49, eX7_stack_51, eX7_stack_52, eX7_stack_54, eX7_stack_55, eX7_stack_56, eX7_stack_57, eX7_stack_59, eX7_stack_60, eX7_stack_61, eX7_stack_63, eX7_stack_64, eX7_stack_65, eX7_stack_68, eX7_stack_70, eX7_stack_71, eX7_stack_74, eX7_stack_75, eX7_stack_78, eX7_stack_80, eX7_stack_82, eX7_stack_83, eX7_stack_84, eX7_stack_85, eX7_stack_86, eX7_stack_89, eX7_stack_91, fx_bd_some, Option.toList_some, Option.toList_none, List.nil_append, List.cons_append, fx_uo, fx_ui, Int.toNat_natCast, ↓reduceIte, Int.reduceEq, Int.reduceLT, Int.reduceLE, Int.reduceNeg, e2, eq_false q1, m3, m4]
          by_cases q3 : p / 24 < br
          · by_cases q4 : p % 24 < bc
            · repeat (first | rw [if_pos (by omega)] | rw [if_neg (by omega)])
            · repeat (first | rw [if_pos (by omega)] | rw [if_neg (by omega)])
          · repeat (first | rw [if_pos (by omega)] | rw [if_neg (by omega)])
  · have e1 := h.clN hc q
    have e2 := Inv.mcN (Rf := Rf) (Cf := Cf) h.1 hc q
    refine Ag.same h (-1) ?_ ?_
    · rw [entX6_stack]
      simp (disch := omega) only [eX6_stack_0, eX6_stack_1, eX6_stack_2, eX6_stack_5, eX6_stack_7, eX6_stack_9_n, eX6_stack_9_s, eX6_stack_12, eX6_stack_13, eX6_stack_16, eX6_stack_17, eX6_stack_20, eX6_stack_21, eX6_stack_22, eX6_stack_23, eX6_stack_25, eX6_stack_26, eX6_stack_28, eX6_stack_29, eX6_stack_31, eX6_stack_32, eX6_stack_34, eX6_stack_36, eX6_stack_38, eX6_stack_41, eX6_stack_44, eX6_stack_47, eX6_stack_49, eX6_stack_51, eX6_stack_54, eX6_stack_57, eX6_stack_60, eX6_stack_61, eX6_stack_62, eX6_stack_64, eX6_stack_66, eX6_stack_68, eX6_stack_69, eX6_stack_72, fx_bd_some, Option.toList_some, Option.toList_none, List.nil_append, List.cons_append, fx_uo, fx_ui, Int.toNat_natCast, ↓reduceIte, Int.reduceEq, Int.reduceLT, Int.reduceLE, Int.reduceNeg, e1]
    · rw [entX7_stack]
      simp (disch := omega) only [eX7_stack_0, eX7_stack_1, eX7_stack_2, eX7_stack_5, eX7_stack_8, eX7_stack_9, eX7_stack_12, eX7_stack_13, eX7_stack_15, eX7_stack_16, eX7_stack_17, eX7_stack_20, eX7_stack_21, eX7_stack_22, eX7_stack_25, eX7_stack_26, eX7_stack_28, eX7_stack_29, eX7_stack_30, eX7_stack_33, eX7_stack_34, eX7_stack_35, eX7_stack_38, eX7_stack_39, eX7_stack_42, eX7_stack_43, eX7_stack_44, eX7_stack_45, eX7_stack_46, eX7_stack_49, eX7_stack_51, eX7_stack_52, eX7_stack_54, eX7_stack_55, eX7_stack_56, eX7_stack_57, eX7_stack_59, eX7_stack_60, eX7_stack_61, eX7_stack_63, eX7_stack_64, eX7_stack_65, eX7_stack_68, eX7_stack_70, eX7_stack_71, eX7_stack_74, eX7_stack_75, eX7_stack_78, eX7_stack_80, eX7_stack_82, eX7_stack_83, eX7_stack_84, eX7_stack_85, eX7_stack_86, eX7_stack_89, eX7_stack_91, fx_bd_some, Option.toList_some, Option.toList_none, List.nil_append, List.cons_append, fx_uo, fx_ui, Int.toNat_natCast, ↓reduceIte, Int.reduceEq, Int.reduceLT, Int.reduceLE, Int.reduceNeg, e2]
/-! about -/
theorem abt_lp (Rf Cf : Nat → Nat) (nc : Nat) {σ : fx_M} (F : Nat → Nat) (hF : ∀ p, p < 144 → σ 51 0 p = F p ∧ F p ≤ 1000) (u1 u2 : Option fx_V) (P : Option fx_R → Prop) (hP : P (fx_E (fx_S Rf Cf nc) 88 80 [some (.inr (some (20, 0))), u1, u2, some (.inl (mxP 144 (fun _ => true) F : Int)), some (.inl (cntP 144 (fun p => decide (0 < F p)) : Int)), some (.inl 144)] [] σ)) : ∀ (d i m n : Nat), i + d = 144 → m = mxP i (fun _ => true) F → n = cntP i (fun p => decide (0 < F p)) → m ≤ 1000 → P (fx_E (fx_S Rf Cf nc) 88 23 [some (.inr (some (20, 0))), u1, u2, some (.inl (m : Int)), some (.inl (n : Int)), some (.inl (i : Int))] [] σ) := by
  intro d
  induction d with
  | zero =>
    intro i m n h hm hn _
    obtain rfl : i = 144 := by omega
    rw [eX7_about_23]
    have a : ((144 : Nat) : Int) = 144 := rfl
    have a2 : ((144 : Int) < 144) = False := by simp
    simp (disch := omega) only [eX7_about_0, eX7_about_1, eX7_about_2, eX7_about_5, eX7_about_8, eX7_about_9, eX7_about_10, eX7_about_11, eX7_about_12, eX7_about_15, eX7_about_16, eX7_about_17, eX7_about_18, eX7_about_20, eX7_about_21, eX7_about_25, eX7_about_28, eX7_about_31, eX7_about_32, eX7_about_35, eX7_about_37, eX7_about_38, eX7_about_39, eX7_about_42, eX7_about_43, eX7_about_46, eX7_about_48, eX7_about_49, eX7_about_52, eX7_about_53, eX7_about_54, eX7_about_56, eX7_about_57, eX7_about_60, eX7_about_62, eX7_about_63, eX7_about_66, eX7_about_67, eX7_about_70, eX7_about_71, eX7_about_72, eX7_about_74, eX7_about_77, eX7_about_81, eX7_about_136, eX7_about_137, eX7_about_140, eX7_about_141, eX7_about_142, eX7_about_143, eX7_about_144, eX7_about_147, eX7_about_148, eX7_about_149, eX7_about_150, eX7_about_151, eX7_about_154, eX7_about_155, eX7_about_156, eX7_about_157, eX7_about_158, eX7_about_161, eX7_about_162, eX7_about_163, eX7_about_164, eX7_about_165, eX7_about_168, eX7_about_169, eX7_about_170, eX7_about_171, eX7_about_172, eX7_about_173, eX7_about_174, eX7_about_177, eX7_about_178, eX7_about_179, eX7_about_182, eX7_about_183, eX7_about_186, eX7_about_187, eX7_about_188, eX7_about_189, eX7_about_192, eX7_about_193, eX7_about_194, eX7_about_195, eX7_about_196, eX7_about_199, eX7_about_200, eX7_about_201, eX7_about_202, eX7_about_204, eX7_about_205, eX7_about_206, fx_bd_some, Option.toList_some, Option.toList_none, List.nil_append, List.cons_append, fx_uo, fx_ui, Int.toNat_natCast, ↓reduceIte, Int.reduceEq, Int.reduceLT, Int.reduceLE, Int.reduceNeg, a, a2]
    rw [hm, hn]
    exact hP
  | succ d ih =>
    intro i m n h hm hn h1000
    obtain ⟨f1, f2⟩ := hF i (by omega)
    have hnle := cntP_le i (fun p => decide (0 < F p))
    have a2 : ((i : Int) < 144) = True := eq_true (by omega)
    rw [eX7_about_23]
    simp (disch := omega) only [eX7_about_0, eX7_about_1, eX7_about_2, eX7_about_5, eX7_about_8, eX7_about_9, eX7_about_10, eX7_about_11, eX7_about_12, eX7_about_15, eX7_about_16, eX7_about_17, eX7_about_18, eX7_about_20, eX7_about_21, eX7_about_25, eX7_about_28, eX7_about_31, eX7_about_32, eX7_about_35, eX7_about_37, eX7_about_38, eX7_about_39, eX7_about_42, eX7_about_43, eX7_about_46, eX7_about_48, eX7_about_49, eX7_about_52, eX7_about_53, eX7_about_54, eX7_about_56, eX7_about_57, eX7_about_60, eX7_about_62, eX7_about_63, eX7_about_66, eX7_about_67, eX7_about_70, eX7_about_71, eX7_about_72, eX7_about_74, eX7_about_77, eX7_about_81, eX7_about_136, eX7_about_137, eX7_about_140, eX7_about_141, eX7_about_142, eX7_about_143, eX7_about_144, eX7_about_147, eX7_about_148, eX7_about_149, eX7_about_150, eX7_about_151, eX7_about_154, eX7_about_155, eX7_about_156, eX7_about_157, eX7_about_158, eX7_about_161, eX7_about_162, eX7_about_163, eX7_about_164, eX7_about_165, eX7_about_168, eX7_about_169, eX7_about_170, eX7_about_171, eX7_about_172, eX7_about_173, eX7_about_174, eX7_about_177, eX7_about_178, eX7_about_179, eX7_about_182, eX7_about_183, eX7_about_186, eX7_about_187, eX7_about_188, eX7_about_189, eX7_about_192, eX7_about_193, eX7_about_194, eX7_about_195, eX7_about_196, eX7_about_199, eX7_about_200, eX7_about_201, eX7_about_202, eX7_about_204, eX7_about_205, eX7_about_206, fx_bd_some, Option.toList_some, Option.toList_none, List.nil_append, List.cons_append, fx_uo, fx_ui, Int.toNat_natCast, ↓reduceIte, Int.reduceEq, Int.reduceLT, Int.reduceLE, Int.reduceNeg, a2, f1]
    have e1 : mxP (i + 1) (fun _ => true) F = max m (F i) := by simp only [mxP, if_true]; rw [hm]
    have e2 : cntP (i + 1) (fun p => decide (0 < F p)) = n + (if 0 < F i then 1 else 0) := by simp only [cntP]; rw [hn]; simp
    rw [show (i : Int) + 1 = ((i + 1 : Nat) : Int) by omega]
    by_cases q1 : m < F i
    · rw [if_pos (by omega)]
      rw [if_pos (by omega)]
      rw [show (n : Int) + 1 = ((n + 1 : Nat) : Int) by omega]
      exact ih (i + 1) _ _ (by omega) (by rw [e1]; omega) (by rw [e2, if_pos (by omega)]) (by omega)
    · rw [if_neg (by omega)]
      by_cases q2 : 0 < F i
      · rw [if_pos (by omega)]
        rw [show (n : Int) + 1 = ((n + 1 : Nat) : Int) by omega]
        exact ih (i + 1) _ _ (by omega) (by rw [e1]; omega) (by rw [e2, if_pos (by omega)]) (by omega)
      · rw [if_neg (by omega)]
        rw [show (n : Int) + 0 = ((n : Nat) : Int) by omega]
        exact ih (i + 1) _ _ (by omega) (by rw [e1]; omega) (by rw [e2, if_neg (by omega)]; rfl) (by omega)
