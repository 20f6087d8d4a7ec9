/-! heights and depths -/
theorem ag_high (Rf Cf : Nat → Nat) (nc : Nat) {σ : fx_M} (h : Inv Rf Cf nc σ) (c k : Int) (hc : fx_in c) (hk : fx_in k) : Ag Rf Cf nc 46 91 [.inl c, .inl k] σ := by
  by_cases q : 0 ≤ c ∧ c < nc
  · obtain ⟨g, rfl⟩ : ∃ g : Nat, c = g := ⟨c.toNat, by omega⟩
    have hg : g < nc := by omega
    have hn := h.1.1
    obtain ⟨R, C, br, bc, f, b, so, pr, pc, ph, sh, to, dp, k1, k2, k3⟩ := h.2.1 g hg
    have e1 := h.clY hg
    have e2 := Inv.mcY (Rf := Rf) (Cf := Cf) h.1 hg
    obtain ⟨⟨b1, b2⟩, ⟨b3, b4⟩, ⟨b5, b6⟩, ⟨b7, b8⟩, b9, b10, b11⟩ := id k1.1
    have e3 := sp_indexIn Rf Cf nc σ g k R C hk b2 b4 k2.2.2.1.1 k2.2.2.1.2.1
    have m1 : σ 30 0 g = R := k3.1.1
    have m2 : σ 31 0 g = C := k3.1.2.1
    have e4 := sp_isCell Rf Cf nc σ g k (by omega) hk (by omega) (by omega)
    rw [m1, m2] at e4
    by_cases hq : 0 ≤ k ∧ k / 12 < R ∧ k % 12 < C
    · obtain ⟨j, rfl⟩ : ∃ j : Nat, k = j := ⟨k.toNat, by omega⟩
      have hjc : isC R C j := ⟨by omega, by omega⟩
      have hj : j < 144 := by have := isC_lt hjc; omega
      rw [if_pos hq, Int.toNat_natCast] at e3
      rw [if_pos hq] at e4
      have hix := ix_lt hjc
      have hN : R * C ≤ 144 := Nat.mul_le_mul b2 b4
      have hl : Rf g * Cf g = R * C := by rw [k2.1.1, k2.1.2]
      obtain ⟨f1, f2, f3⟩ := k2.2.1.2.2.2.2.1 (ix C j) hix
      rw [ki_ix hjc] at f1 f2 f3
      obtain ⟨g1, g2, g3⟩ := k3.1.2.2.2.2 j hj hjc
      have i1 : (144 * (g : Int) + (j : Int)).toNat = 144 * g + j := by omega
      refine Ag.same h (ph j : Int) ?_ ?_
      · rw [entX6_high]
        simp (disch := omega) only [eX6_high_0, eX6_high_1, eX6_high_2, eX6_high_5, eX6_high_6, eX6_high_7, eX6_high_8, eX6_high_11, eX6_high_13, eX6_high_14_n, eX6_high_14_s, eX6_high_17, eX6_high_19, eX6_high_20, eX6_high_23, eX6_high_24, eX6_high_25, eX6_high_26, eX6_high_29, eX6_high_32, eX6_high_34, eX6_high_35, fx_bd_some, Option.toList_some, Option.toList_none, List.nil_append, List.cons_append, fx_uo, fx_ui, Int.toNat_natCast, ↓reduceIte, Int.reduceEq, Int.reduceLT, Int.reduceLE, Int.reduceNeg, e1, e3, f3]
        try rw [if_neg (by omega)]
      · rw [entX7_high]
        simp (disch := omega) only [eX7_high_0, eX7_high_1, eX7_high_2, eX7_high_5, eX7_high_8, eX7_high_9, eX7_high_10, eX7_high_11, eX7_high_14, eX7_high_17, eX7_high_18, eX7_high_21, eX7_high_24, eX7_high_25, eX7_high_26, eX7_high_27, eX7_high_28, eX7_high_29, eX7_high_32, eX7_high_33, fx_bd_some, Option.toList_some, Option.toList_none, List.nil_append, List.cons_append, fx_uo, fx_ui, Int.toNat_natCast, ↓reduceIte, Int.reduceEq, Int.reduceLT, Int.reduceLE, Int.reduceNeg, e2, e4, i1, g3]
    · rw [if_neg hq] at e3 e4
      refine Ag.same h (-1) ?_ ?_
      · rw [entX6_high]
        simp (disch := omega) only [eX6_high_0, eX6_high_1, eX6_high_2, eX6_high_5, eX6_high_6, eX6_high_7, eX6_high_8, eX6_high_11, eX6_high_13, eX6_high_14_n, eX6_high_14_s, eX6_high_17, eX6_high_19, eX6_high_20, eX6_high_23, eX6_high_24, eX6_high_25, eX6_high_26, eX6_high_29, eX6_high_32, eX6_high_34, eX6_high_35, fx_bd_some, Option.toList_some, Option.toList_none, List.nil_append, List.cons_append, fx_uo, fx_ui, Int.toNat_natCast, ↓reduceIte, Int.reduceEq, Int.reduceLT, Int.reduceLE, Int.reduceNeg, e1, e3]
      · rw [entX7_high]
        simp (disch := omega) only [eX7_high_0, eX7_high_1, eX7_high_2, eX7_high_5, eX7_high_8, eX7_high_9, eX7_high_10, eX7_high_11, eX7_high_14, eX7_high_17, eX7_high_18, eX7_high_21, eX7_high_24, eX7_high_25, eX7_high_26, eX7_high_27, eX7_high_28, eX7_high_29, eX7_high_32, eX7_high_33, fx_bd_some, Option.toList_some, Option.toList_none, List.nil_append, List.cons_append, fx_uo, fx_ui, Int.toNat_natCast, ↓reduceIte, Int.reduceEq, Int.reduceLT, Int.reduceLE, Int.reduceNeg, e2, e4]
  · have e1 := h.clN hc q
    have e2 := Inv.mcN (Rf := Rf) (Cf := Cf) h.1 hc q
    have e3 := sp_indexInN Rf Cf nc σ k
    refine Ag.same h (-1) ?_ ?_
    · rw [entX6_high]
      simp (disch := omega) only [eX6_high_0, eX6_high_1, eX6_high_2, eX6_high_5, eX6_high_6, eX6_high_7, eX6_high_8, eX6_high_11, eX6_high_13, eX6_high_14_n, eX6_high_14_s, eX6_high_17, eX6_high_19, eX6_high_20, eX6_high_23, eX6_high_24, eX6_high_25, eX6_high_26, eX6_high_29, eX6_high_32, eX6_high_34, eX6_high_35, fx_bd_some, Option.toList_some, Option.toList_none, List.nil_append, List.cons_append, fx_uo, fx_ui, Int.toNat_natCast, ↓reduceIte, Int.reduceEq, Int.reduceLT, Int.reduceLE, Int.reduceNeg, e1, e3]
    · rw [entX7_high]
      simp (disch := omega) only [eX7_high_0, eX7_high_1, eX7_high_2, eX7_high_5, eX7_high_8, eX7_high_9, eX7_high_10, eX7_high_11, eX7_high_14, eX7_high_17, eX7_high_18, eX7_high_21, eX7_high_24, eX7_high_25, eX7_high_26, eX7_high_27, eX7_high_28, eX7_high_29, eX7_high_32, eX7_high_33, fx_bd_some, Option.toList_some, Option.toList_none, List.nil_append, List.cons_append, fx_uo, fx_ui, Int.toNat_natCast, ↓reduceIte, Int.reduceEq, Int.reduceLT, Int.reduceLE, Int.reduceNeg, e2]
theorem ag_depth (Rf Cf : Nat → Nat) (nc : Nat) {σ : fx_M} (h : Inv Rf Cf nc σ) (c k : Int) (hc : fx_in c) (hk : fx_in k) : Ag Rf Cf nc 53 106 [.inl c, .inl k] σ := by
  by_cases q : 0 ≤ c ∧ c < nc
  · obtain ⟨g, rfl⟩ : ∃ g : Nat, c = g := ⟨c.toNat, by omega⟩
    have hg : g < nc := by omega
    have hn := h.1.1
    obtain ⟨R, C, br, bc, f, b, so, pr, pc, ph, sh, to, dp, k1, k2, k3⟩ := h.2.1 g hg
    have e1 := h.clY hg
    have e2 := Inv.mcY (Rf := Rf) (Cf := Cf) h.1 hg
    obtain ⟨⟨b1, b2⟩, ⟨b3, b4⟩, ⟨b5, b6⟩, ⟨b7, b8⟩, b9, b10, b11⟩ := id k1.1
    have e3 := sp_indexIn Rf Cf nc σ g k R C hk b2 b4 k2.2.2.1.1 k2.2.2.1.2.1
    have m1 : σ 30 0 g = R := k3.1.1
    have m2 : σ 31 0 g = C := k3.1.2.1
    have e4 := sp_isCell Rf Cf nc σ g k (by omega) hk (by omega) (by omega)
    rw [m1, m2] at e4
    by_cases hq : 0 ≤ k ∧ k / 12 < R ∧ k % 12 < C
    · obtain ⟨j, rfl⟩ : ∃ j : Nat, k = j := ⟨k.toNat, by omega⟩
      have hjc : isC R C j := ⟨by omega, by omega⟩
      have hj : j < 144 := by have := isC_lt hjc; omega
      rw [if_pos hq, Int.toNat_natCast] at e3
      rw [if_pos hq] at e4
      have hix := ix_lt hjc
      have hN : R * C ≤ 144 := Nat.mul_le_mul b2 b4
      have hl : Rf g * Cf g = R * C := by rw [k2.1.1, k2.1.2]
      obtain ⟨f1, f2, f3⟩ := k2.2.1.2.2.2.2.1 (ix C j) hix
      rw [ki_ix hjc] at f1 f2 f3
      obtain ⟨g1, g2, g3⟩ := k3.1.2.2.2.2 j hj hjc
      have d1 := k2.2.2.2.2.2 j hj hjc
      have d2 := k3.2.2.2.2.2.2 j hj
      rw [if_pos hjc] at d2
      have i1 : (144 * (g : Int) + (j : Int)).toNat = 144 * g + j := by omega
      refine Ag.same h (dp j) ?_ ?_
      · rw [entX6_depth]
        simp (disch := omega) only [eX6_depth_0, eX6_depth_1, eX6_depth_2, eX6_depth_5, eX6_depth_6, eX6_depth_7, eX6_depth_8, eX6_depth_11, eX6_depth_13, eX6_depth_14_n, eX6_depth_14_s, eX6_depth_17, eX6_depth_19, eX6_depth_20, eX6_depth_23, eX6_depth_24, eX6_depth_25, eX6_depth_26, eX6_depth_29, eX6_depth_31, eX6_depth_32, fx_bd_some, Option.toList_some, Option.toList_none, List.nil_append, List.cons_append, fx_uo, fx_ui, Int.toNat_natCast, ↓reduceIte, Int.reduceEq, Int.reduceLT, Int.reduceLE, Int.reduceNeg, e1, e3, d1]
        try rw [if_neg (by omega)]
      · rw [entX7_depth]
        simp (disch := omega) only [eX7_depth_0, eX7_depth_1, eX7_depth_2, eX7_depth_5, eX7_depth_8, eX7_depth_9, eX7_depth_10, eX7_depth_11, eX7_depth_14, eX7_depth_17, eX7_depth_18, eX7_depth_21, eX7_depth_24, eX7_depth_25, eX7_depth_26, eX7_depth_27, eX7_depth_28, eX7_depth_29, eX7_depth_32, eX7_depth_33, fx_bd_some, Option.toList_some, Option.toList_none, List.nil_append, List.cons_append, fx_uo, fx_ui, Int.toNat_natCast, ↓reduceIte, Int.reduceEq, Int.reduceLT, Int.reduceLE, Int.reduceNeg, e2, e4, i1, d2]
    · rw [if_neg hq] at e3 e4
      refine Ag.same h (-1) ?_ ?_
      · rw [entX6_depth]
        simp (disch := omega) only [eX6_depth_0, eX6_depth_1, eX6_depth_2, eX6_depth_5, eX6_depth_6, eX6_depth_7, eX6_depth_8, eX6_depth_11, eX6_depth_13, eX6_depth_14_n, eX6_depth_14_s, eX6_depth_17, eX6_depth_19, eX6_depth_20, eX6_depth_23, eX6_depth_24, eX6_depth_25, eX6_depth_26, eX6_depth_29, eX6_depth_31, eX6_depth_32, fx_bd_some, Option.toList_some, Option.toList_none, List.nil_append, List.cons_append, fx_uo, fx_ui, Int.toNat_natCast, ↓reduceIte, Int.reduceEq, Int.reduceLT, Int.reduceLE, Int.reduceNeg, e1, e3]
      · rw [entX7_depth]
        simp (disch := omega) only [eX7_depth_0, eX7_depth_1, eX7_depth_2, eX7_depth_5, eX7_depth_8, eX7_depth_9, eX7_depth_10, eX7_depth_11, eX7_depth_14, eX7_depth_17, eX7_depth_18, eX7_depth_21, eX7_depth_24, eX7_depth_25, eX7_depth_26, eX7_depth_27, eX7_depth_28, eX7_depth_29, eX7_depth_32, eX7_depth_33, fx_bd_some, Option.toList_some, Option.toList_none, List.nil_append, List.cons_append, fx_uo, fx_ui, Int.toNat_natCast, ↓reduceIte, Int.reduceEq, Int.reduceLT, Int.reduceLE, Int.reduceNeg, e2, e4]
  · have e1 := h.clN hc q
    have e2 := Inv.mcN (Rf := Rf) (Cf := Cf) h.1 hc q
    have e3 := sp_indexInN Rf Cf nc σ k
    refine Ag.same h (-1) ?_ ?_
    · rw [entX6_depth]
      simp (disch := omega) only [eX6_depth_0, eX6_depth_1, eX6_depth_2, eX6_depth_5, eX6_depth_6, eX6_depth_7, eX6_depth_8, eX6_depth_11, eX6_depth_13, eX6_depth_14_n, eX6_depth_14_s, eX6_depth_17, eX6_depth_19, eX6_depth_20, eX6_depth_23, eX6_depth_24, eX6_depth_25, eX6_depth_26, eX6_depth_29, eX6_depth_31, eX6_depth_32, fx_bd_some, Option.toList_some, Option.toList_none, List.nil_append, List.cons_append, fx_uo, fx_ui, Int.toNat_natCast, ↓reduceIte, Int.reduceEq, Int.reduceLT, Int.reduceLE, Int.reduceNeg, e1, e3]
    · rw [entX7_depth]
      simp (disch := omega) only [eX7_depth_0, eX7_depth_1, eX7_depth_2, eX7_depth_5, eX7_depth_8, eX7_depth_9, eX7_depth_10, eX7_depth_11, eX7_depth_14, eX7_depth_17, eX7_depth_18, eX7_depth_21, eX7_depth_24, eX7_depth_25, eX7_depth_26, eX7_depth_27, eX7_depth_28, eX7_depth_29, eX7_depth_32, eX7_depth_33, fx_bd_some, Option.toList_some, Option.toList_none, List.nil_append, List.cons_append, fx_uo, fx_ui, Int.toNat_natCast, ↓reduceIte, Int.reduceEq, Int.reduceLT, Int.reduceLE, Int.reduceNeg, e2]
/-! dry, off, open -/
theorem ag_dry (Rf Cf : Nat → Nat) (nc : Nat) {σ : fx_M} (h : Inv Rf Cf nc σ) (c : Int) (hc : fx_in c) : Ag Rf Cf nc 52 105 [.inl c] σ := by
  by_cases q : 0 ≤ c ∧ c < nc
  · obtain ⟨g, rfl⟩ : ∃ g : Nat, c = g := ⟨c.toNat, by omega⟩
    have hg : g < nc := by omega
    have hn := h.1.1
    obtain ⟨R, C, br, bc, f, b, so, pr, pc, ph, sh, to, dp, k1, k2, k3⟩ := h.2.1 g hg
    have e1 := h.clY hg
    have hs : ∀ o k x, gl o k x → fx_up σ 12 g 9 0 o k x = σ o k x := fun o k x ho => by unfold gl at ho; rw [fx_uo (by omega)]
    have e2 := Inv.mcY (Rf := Rf) (Cf := Cf) (h.1.of hs) hg
    have hso := k1.2.2.2.1
    have s1 : σ 12 g 9 = so := k2.2.2.2.1.2.2.2
    have s2 : σ 40 0 g = so := k3.2.2.2.2.2.1
    refine ⟨so, fx_up σ 12 g 9 0, fx_up (fx_up σ 12 g 9 0) 40 0 g 0, ?_, ?_, h.put g hg (fun o k x ho => ?_) (fun o k x h1 h2 h3 h4 => ?_) (fun c o i h1 h2 h3 => ?_) ⟨R, C, br, bc, f, b, 0, pr, pc, ph, sh, to, dp, ⟨k1.1, k1.2.1, k1.2.2.1, by omega, k1.2.2.2.2⟩, ?_, ?_⟩⟩
    · rw [entX6_dry]
      rcases (show so = 0 ∨ so = 1 by omega) with rfl | rfl
      · simp (disch := omega) only [eX6_dry_0, eX6_dry_1, eX6_dry_2, eX6_dry_5, eX6_dry_6, eX6_dry_7_n, eX6_dry_7_s, eX6_dry_10, eX6_dry_11, eX6_dry_12, eX6_dry_13, eX6_dry_16, eX6_dry_19, eX6_dry_20, eX6_dry_23, eX6_dry_24, eX6_dry_25, eX6_dry_26, eX6_dry_27, eX6_dry_30, eX6_dry_31, fx_bd_some, Option.toList_some, Option.toList_none, List.nil_append, List.cons_append, fx_uo, fx_ui, Int.toNat_natCast, ↓reduceIte, Int.reduceEq, Int.reduceLT, Int.reduceLE, Int.reduceNeg, e1, s1, ic0]
      · simp (disch := omega) only [eX6_dry_0, eX6_dry_1, eX6_dry_2, eX6_dry_5, eX6_dry_6, eX6_dry_7_n, eX6_dry_7_s, eX6_dry_10, eX6_dry_11, eX6_dry_12, eX6_dry_13, eX6_dry_16, eX6_dry_19, eX6_dry_20, eX6_dry_23, eX6_dry_24, eX6_dry_25, eX6_dry_26, eX6_dry_27, eX6_dry_30, eX6_dry_31, fx_bd_some, Option.toList_some, Option.toList_none, List.nil_append, List.cons_append, fx_uo, fx_ui, Int.toNat_natCast, ↓reduceIte, Int.reduceEq, Int.reduceLT, Int.reduceLE, Int.reduceNeg, e1, s1, ic1]
    · rw [entX7_dry]
      rcases (show so = 0 ∨ so = 1 by omega) with rfl | rfl
      · simp (disch := omega) only [eX7_dry_0, eX7_dry_1, eX7_dry_2, eX7_dry_5, eX7_dry_8, eX7_dry_9, eX7_dry_10, eX7_dry_11, eX7_dry_14, eX7_dry_15, eX7_dry_16, eX7_dry_17, eX7_dry_18, eX7_dry_21, eX7_dry_22, eX7_dry_23, eX7_dry_24, eX7_dry_25, eX7_dry_28, eX7_dry_29, eX7_dry_32, eX7_dry_33, fx_bd_some, Option.toList_some, Option.toList_none, List.nil_append, List.cons_append, fx_uo, fx_ui, Int.toNat_natCast, ↓reduceIte, Int.reduceEq, Int.reduceLT, Int.reduceLE, Int.reduceNeg, e2, s2, ic0]
      · simp (disch := omega) only [eX7_dry_0, eX7_dry_1, eX7_dry_2, eX7_dry_5, eX7_dry_8, eX7_dry_9, eX7_dry_10, eX7_dry_11, eX7_dry_14, eX7_dry_15, eX7_dry_16, eX7_dry_17, eX7_dry_18, eX7_dry_21, eX7_dry_22, eX7_dry_23, eX7_dry_24, eX7_dry_25, eX7_dry_28, eX7_dry_29, eX7_dry_32, eX7_dry_33, fx_bd_some, Option.toList_some, Option.toList_none, List.nil_append, List.cons_append, fx_uo, fx_ui, Int.toNat_natCast, ↓reduceIte, Int.reduceEq, Int.reduceLT, Int.reduceLE, Int.reduceNeg, e2, s2, ic1]
    · unfold gl at ho
      rw [fx_uo (by omega), fx_uo (by omega)]
    · unfold fx_up
      rw [if_neg (by omega), if_neg (by omega)]
    · unfold inB at h3
      unfold fx_up
      rw [if_neg (by omega), if_neg (by omega)]
    · obtain ⟨a1, a2, a3, ⟨a4, a5, a6, a7⟩, a8, a9⟩ := k2
      have e' : ∀ i, i ≠ 9 → fx_up (fx_up σ 12 g 9 0) 40 0 g 0 12 g i = σ 12 g i := fun i h1 => by rw [fx_uo (by omega), fx_ui, if_neg h1]
      refine ⟨a1, a2.of (fun o i h1 h2 => by rw [fx_uo (by omega), fx_uo (by omega)]), ?_, ⟨?_, ?_, ?_, ?_⟩, fun r n hr hn => ?_, fun k hk hkc => ?_⟩
      · rw [e' _ (by omega), e' _ (by omega), e' _ (by omega)]
        exact a3
      · rw [fx_uo (by omega), fx_ui, if_neg (by omega)]; exact a4
      · rw [fx_uo (by omega), fx_ui, if_neg (by omega)]; exact a5
      · rw [fx_uo (by omega), fx_ui, if_neg (by omega)]; exact a6
      · rw [fx_uo (by omega), fx_ui, if_pos rfl]; rfl
      · rw [fx_uo (by omega), fx_uo (by omega)]; exact a8 r n hr hn
      · rw [fx_uo (by omega), fx_uo (by omega)]; exact a9 k hk hkc
    · obtain ⟨a1, a2, a3, a4, a5, a6, a7⟩ := k3
      have e : ∀ o i, o ≠ 40 → 20 ≤ o → fx_up (fx_up σ 12 g 9 0) 40 0 g 0 o 0 i = σ o 0 i := fun o i h1 h2 => by rw [fx_uo (by omega), fx_uo (by omega)]
      refine ⟨a1.of (fun o i ho => e o i (by omega) (by omega)), by rw [e _ _ (by omega) (by omega)]; exact a2, a3.of (fun o i ho => e o i (by omega) (by omega)), fun r n => by rw [shB_of (fun o i ho => e o i (by omega) (by omega))]; exact a4 r n, by rw [e _ _ (by omega) (by omega)]; exact a5, by rw [fx_ui, if_pos rfl]; rfl, fun k hk => by rw [e _ _ (by omega) (by omega)]; exact a7 k hk⟩
  · have e1 := h.clN hc q
    have e2 := Inv.mcN (Rf := Rf) (Cf := Cf) h.1 hc q
    refine Ag.same h (-1) ?_ ?_
    · rw [entX6_dry]
      simp (disch := omega) only [eX6_dry_0, eX6_dry_1, eX6_dry_2, eX6_dry_5, eX6_dry_6, eX6_dry_7_n, eX6_dry_7_s, eX6_dry_10, eX6_dry_11, eX6_dry_12, eX6_dry_13, eX6_dry_16, eX6_dry_19, eX6_dry_20, eX6_dry_23, eX6_dry_24, eX6_dry_25, eX6_dry_26, eX6_dry_27, eX6_dry_30, eX6_dry_31, fx_bd_some, Option.toList_some, Option.toList_none, List.nil_append, List.cons_append, fx_uo, fx_ui, Int.toNat_natCast, ↓reduceIte, Int.reduceEq, Int.reduceLT, Int.reduceLE, Int.reduceNeg, e1]
    · rw [entX7_dry]
      simp (disch := omega) only [eX7_dry_0, eX7_dry_1, eX7_dry_2, eX7_dry_5, eX7_dry_8, eX7_dry_9, eX7_dry_10, eX7_dry_11, eX7_dry_14, eX7_dry_15, eX7_dry_16, eX7_dry_17, eX7_dry_18, eX7_dry_21, eX7_dry_22, eX7_dry_23, eX7_dry_24, eX7_dry_25, eX7_dry_28, eX7_dry_29, eX7_dry_32, eX7_dry_33, fx_bd_some, Option.toList_some, Option.toList_none, List.nil_append, List.cons_append, fx_uo, fx_ui, Int.toNat_natCast, ↓reduceIte, Int.reduceEq, Int.reduceLT, Int.reduceLE, Int.reduceNeg, e2]
theorem shB_zero (c : Nat) (σ : fx_M) (r n : Nat) : shB c 0 σ r n = false := rfl
theorem ag_off (Rf Cf : Nat → Nat) (nc : Nat) {σ : fx_M} (h : Inv Rf Cf nc σ) (c : Int) (hc : fx_in c) : Ag Rf Cf nc 48 94 [.inl c] σ := by
  by_cases q : 0 ≤ c ∧ c < nc
  · obtain ⟨g, rfl⟩ : ∃ g : Nat, c = g := ⟨c.toNat, by omega⟩
    have hg : g < nc := by omega
    have hn := h.1.1
    obtain ⟨R, C, br, bc, f, b, so, pr, pc, ph, sh, to, dp, k1, k2, k3⟩ := h.2.1 g hg
    have b2 := k1.1.1.2
    have e1 := h.clY hg
    have s1 : σ 12 g 7 = b := k2.2.2.2.1.2.1
    have s2 : σ 42 0 g = b := k3.2.2.1.2.1
    have e3 := sp_takeBoardsOff Rf Cf nc g (by rw [k2.1.1]; exact b2) σ
    obtain ⟨σ1, hσ1⟩ : ∃ σ1, σ1 = fx_fr (fx_up σ 12 g 7 0) 14 g 0 (12 * Rf g) (fun _ => 0) := ⟨_, rfl⟩
    rw [← hσ1] at e3
    have hF : ∀ o k x, ¬ (o = 12 ∧ k = g ∧ x = 7) → ¬ (o = 14 ∧ k = g) → σ1 o k x = σ o k x := fun o k x h1 h2 => by
      rw [hσ1]; unfold fx_fr fx_up
      rw [if_neg (by omega), if_neg (by omega)]
    have e2 := Inv.mcY (Rf := Rf) (Cf := Cf) (h.1.of (σ' := σ1) (fun o k x ho => hF o k x (by unfold gl at ho; omega) (by unfold gl at ho; omega))) hg
    have s3 : σ1 42 0 g = b := by rw [hF _ _ _ (by omega) (by omega)]; exact s2
    refine ⟨b, σ1, fx_up σ1 42 0 g 0, ?_, ?_, h.put g hg (fun o k x ho => ?_) (fun o k x h1 h2 h3 h4 => ?_) (fun c o i h1 h2 h3 => ?_) ⟨R, C, br, bc, f, 0, so, pr, pc, ph, fun _ _ => false, to, dp, ⟨k1.1, k1.2.1, by omega, k1.2.2.2.1, k1.2.2.2.2⟩, ?_, ?_⟩⟩
    · rw [entX6_off]
      simp (disch := omega) only [eX6_off_0, eX6_off_1, eX6_off_2, eX6_off_5, eX6_off_6, eX6_off_7_n, eX6_off_7_s, eX6_off_10, eX6_off_11, eX6_off_12, eX6_off_13, eX6_off_16, eX6_off_17, eX6_off_18, eX6_off_21, eX6_off_22, fx_bd_some, Option.toList_some, Option.toList_none, List.nil_append, List.cons_append, fx_uo, fx_ui, Int.toNat_natCast, ↓reduceIte, Int.reduceEq, Int.reduceLT, Int.reduceLE, Int.reduceNeg, e1, s1, e3]
    · rw [entX7_off]
      simp (disch := omega) only [eX7_off_0, eX7_off_1, eX7_off_2, eX7_off_5, eX7_off_8, eX7_off_9, eX7_off_10, eX7_off_11, eX7_off_14, eX7_off_15, eX7_off_16, eX7_off_17, eX7_off_18, eX7_off_21, eX7_off_22, eX7_off_23, eX7_off_24, eX7_off_25, fx_bd_some, Option.toList_some, Option.toList_none, List.nil_append, List.cons_append, fx_uo, fx_ui, Int.toNat_natCast, ↓reduceIte, Int.reduceEq, Int.reduceLT, Int.reduceLE, Int.reduceNeg, e2, s3]
    · unfold gl at ho
      rw [fx_uo (by omega), hF _ _ _ (by omega) (by omega)]
    · rw [fx_uo (by omega), hF _ _ _ (by omega) (by omega)]
    · unfold inB at h3
      unfold fx_up
      rw [if_neg (by omega), hF _ _ _ (by omega) (by omega)]
    · obtain ⟨a1, a2, a3, ⟨a4, a5, a6, a7⟩, a8, a9⟩ := k2
      have e : ∀ o i, o ≠ 12 → o ≠ 14 → o ≠ 42 → fx_up σ1 42 0 g 0 o g i = σ o g i := fun o i h1 h2 h3 => by rw [fx_uo (by omega), hF _ _ _ (by omega) (by omega)]
      have e' : ∀ i, i ≠ 7 → fx_up σ1 42 0 g 0 12 g i = σ 12 g i := fun i h1 => by rw [fx_uo (by omega), hF _ _ _ (by omega) (by omega)]
      refine ⟨a1, a2.of (fun o i h1 h2 => e o i (by omega) (by omega) (by omega)), ?_, ⟨?_, ?_, ?_, ?_⟩, fun r n hr hn => ?_, fun k hk hkc => ?_⟩
      · rw [e' _ (by omega), e' _ (by omega), e' _ (by omega)]; exact a3
      · rw [e' _ (by omega)]; exact a4
      · rw [fx_uo (by omega), hσ1]; unfold fx_fr; rw [if_neg (by omega), fx_ui, if_pos rfl]; rfl
      · rw [e' _ (by omega)]; exact a6
      · rw [e' _ (by omega)]; exact a7
      · rw [fx_uo (by omega), hσ1]; unfold fx_fr
        have := a1.1
        rw [if_pos (by omega)]; rfl
      · rw [e _ _ (by omega) (by omega) (by omega)]; exact a9 k hk hkc
    · obtain ⟨a1, a2, a3, a4, a5, a6, a7⟩ := k3
      have e : ∀ o i, o ≠ 42 → 20 ≤ o → fx_up σ1 42 0 g 0 o 0 i = σ o 0 i := fun o i h1 h2 => by rw [fx_uo (by omega), hF _ _ _ (by omega) (by omega)]
      refine ⟨a1.of (fun o i ho => e o i (by omega) (by omega)), by rw [e _ _ (by omega) (by omega)]; exact a2, ⟨by omega, by rw [fx_ui, if_pos rfl]; rfl, fun j hj => by omega⟩, fun r n => rfl, by rw [e _ _ (by omega) (by omega)]; exact a5, by rw [e _ _ (by omega) (by omega)]; exact a6, fun k hk => by rw [e _ _ (by omega) (by omega)]; exact a7 k hk⟩
  · have e1 := h.clN hc q
    have e2 := Inv.mcN (Rf := Rf) (Cf := Cf) h.1 hc q
    refine Ag.same h (-1) ?_ ?_
    · rw [entX6_off]
      simp (disch := omega) only [eX6_off_0, eX6_off_1, eX6_off_2, eX6_off_5, eX6_off_6, eX6_off_7_n, eX6_off_7_s, eX6_off_10, eX6_off_11, eX6_off_12, eX6_off_13, eX6_off_16, eX6_off_17, eX6_off_18, eX6_off_21, eX6_off_22, fx_bd_some, Option.toList_some, Option.toList_none, List.nil_append, List.cons_append, fx_uo, fx_ui, Int.toNat_natCast, ↓reduceIte, Int.reduceEq, Int.reduceLT, Int.reduceLE, Int.reduceNeg, e1]
    · rw [entX7_off]
      simp (disch := omega) only [eX7_off_0, eX7_off_1, eX7_off_2, eX7_off_5, eX7_off_8, eX7_off_9, eX7_off_10, eX7_off_11, eX7_off_14, eX7_off_15, eX7_off_16, eX7_off_17, eX7_off_18, eX7_off_21, eX7_off_22, eX7_off_23, eX7_off_24, eX7_off_25, fx_bd_some, Option.toList_some, Option.toList_none, List.nil_append, List.cons_append, fx_uo, fx_ui, Int.toNat_natCast, ↓reduceIte, Int.reduceEq, Int.reduceLT, Int.reduceLE, Int.reduceNeg, e2]
/-! what is read alone -/
theorem ag_mirrored (Rf Cf : Nat → Nat) (nc : Nat) {σ : fx_M} (h : Inv Rf Cf nc σ) (c t : Int) (hc : fx_in c) (ht : fx_in t) : Ag Rf Cf nc 54 108 [.inl c, .inl t] σ := by
  by_cases q : 0 ≤ c ∧ c < nc
  · obtain ⟨g, rfl⟩ : ∃ g : Nat, c = g := ⟨c.toNat, by omega⟩
    have hg : g < nc := by omega
    have hn := h.1.1
    obtain ⟨R, C, br, bc, f, b, so, pr, pc, ph, sh, to, dp, k1, k2, k3⟩ := h.2.1 g hg
    have e1 := h.clY hg
    have e2 := Inv.mcY (Rf := Rf) (Cf := Cf) h.1 hg
    have b2 := k1.1.1.2
    have b4 := k1.1.2.1.2
    have s1 : σ 12 g 0 = R := k2.2.2.1.1
    have s2 : σ 12 g 1 = C := k2.2.2.1.2.1
    have m1 : σ 30 0 g = R := k3.1.1
    have m2 : σ 31 0 g = C := k3.1.2.1
    by_cases qt : 0 ≤ t ∧ t ≤ 3
    · obtain ⟨t, rfl⟩ : ∃ t0 : Nat, t = t0 := ⟨t.toNat, by omega⟩
      by_cases q2 : t = 2 ∧ R ≠ C
      · obtain ⟨rfl, q2⟩ := q2
        refine Ag.same h (-3) ?_ ?_
        · rw [entX6_mirrored]
          simp (disch := omega) only [eX6_mirrored_0, eX6_mirrored_1, eX6_mirrored_2, eX6_mirrored_5, eX6_mirrored_6, eX6_mirrored_7_n, eX6_mirrored_7_s, eX6_mirrored_10, eX6_mirrored_11, eX6_mirrored_14, eX6_mirrored_15, eX6_mirrored_16, eX6_mirrored_19, eX6_mirrored_20, eX6_mirrored_21, eX6_mirrored_22, eX6_mirrored_23, eX6_mirrored_26, eX6_mirrored_27, eX6_mirrored_30, eX6_mirrored_31, eX6_mirrored_34, eX6_mirrored_37, eX6_mirrored_39, eX6_mirrored_40, eX6_mirrored_41, eX6_mirrored_42, eX6_mirrored_45, eX6_mirrored_48, eX6_mirrored_49, eX6_mirrored_52, eX6_mirrored_53, fx_bd_some, Option.toList_some, Option.toList_none, List.nil_append, List.cons_append, fx_uo, fx_ui, Int.toNat_natCast, ↓reduceIte, Int.reduceEq, Int.reduceLT, Int.reduceLE, Int.reduceNeg, e1, s1, s2, ic2]
          repeat (first | rw [if_pos (by omega)] | rw [if_neg (by omega)])
        · rw [entX7_mirrored]
          simp (disch := omega) only [eX7_mirrored_0, eX7_mirrored_1, eX7_mirrored_2, eX7_mirrored_5, eX7_mirrored_8, eX7_mirrored_9, eX7_mirrored_10, eX7_mirrored_11, eX7_mirrored_14, eX7_mirrored_17, eX7_mirrored_18, eX7_mirrored_19, eX7_mirrored_20, eX7_mirrored_23, eX7_mirrored_24, eX7_mirrored_25, eX7_mirrored_26, eX7_mirrored_27, eX7_mirrored_30, eX7_mirrored_31, eX7_mirrored_32, eX7_mirrored_34, eX7_mirrored_35, eX7_mirrored_36, eX7_mirrored_39, eX7_mirrored_40, eX7_mirrored_42, eX7_mirrored_45, eX7_mirrored_47, eX7_mirrored_48, eX7_mirrored_49, eX7_mirrored_53, eX7_mirrored_54, eX7_mirrored_57, eX7_mirrored_58, eX7_mirrored_62, eX7_mirrored_64, eX7_mirrored_67, eX7_mirrored_68, eX7_mirrored_69, eX7_mirrored_72, eX7_mirrored_73, eX7_mirrored_74, eX7_mirrored_77, eX7_mirrored_78, eX7_mirrored_79, eX7_mirrored_80, eX7_mirrored_82, eX7_mirrored_83, eX7_mirrored_86, eX7_mirrored_87, eX7_mirrored_88, eX7_mirrored_91, eX7_mirrored_93, eX7_mirrored_96, eX7_mirrored_98, eX7_mirrored_100, eX7_mirrored_101, eX7_mirrored_104, eX7_mirrored_105, eX7_mirrored_106, eX7_mirrored_109, eX7_mirrored_111, eX7_mirrored_112, eX7_mirrored_113, eX7_mirrored_115, eX7_mirrored_116, eX7_mirrored_119, eX7_mirrored_120, eX7_mirrored_121, eX7_mirrored_124, eX7_mirrored_126, eX7_mirrored_129, eX7_mirrored_131, eX7_mirrored_133, eX7_mirrored_134, eX7_mirrored_135, eX7_mirrored_137, eX7_mirrored_139, eX7_mirrored_142, eX7_mirrored_143, eX7_mirrored_144, eX7_mirrored_146, eX7_mirrored_148, eX7_mirrored_151, eX7_mirrored_154, eX7_mirrored_155, eX7_mirrored_156, eX7_mirrored_159, eX7_mirrored_162, eX7_mirrored_165, eX7_mirrored_168, eX7_mirrored_169, fx_bd_some, Option.toList_some, Option.toList_none, List.nil_append, List.cons_append, fx_uo, fx_ui, Int.toNat_natCast, ↓reduceIte, Int.reduceEq, Int.reduceLT, Int.reduceLE, Int.reduceNeg, e2, m1, m2, ic2, sp_within, Int.reduceLE, and_self]
          repeat (first | rw [if_pos (by omega)] | rw [if_neg (by omega)])
      · have h22 : t = 2 → R = C := fun h => Classical.byContradiction (fun h' => q2 ⟨h, h'⟩)
        obtain ⟨v, v1, v2⟩ := sp_isSameTurned Rf Cf nc (t := t) (by omega) k2.1 b2 b4 h22 (k2.dc k1)
        obtain ⟨w, w1, w2⟩ := mi_lp Rf Cf nc (t := t) (c := g) (by omega) (by omega) b2 b4 h22 (k3.dm k1) R 0 none none none (by omega)
        have hvw : w = v ∧ (v = 0 ∨ v = 1) := by
          rcases v2 with ⟨a1, r', n', a2, a3, a4⟩ | ⟨a1, a2⟩ <;> rcases w2 with ⟨c1, r'', n'', c2, c3, c4⟩ | ⟨c1, c2⟩
          · omega
          · exact absurd (c2 r' n' (by omega) a2 a3) a4
          · exact absurd (a2 r'' n'' c2 c3) c4
          · omega
        obtain ⟨rfl, hv⟩ := hvw
        clear v2 w2
        refine Ag.same h w ?_ ?_
        · rw [entX6_mirrored]
          simp (disch := omega) only [eX6_mirrored_0, eX6_mirrored_1, eX6_mirrored_2, eX6_mirrored_5, eX6_mirrored_6, eX6_mirrored_7_n, eX6_mirrored_7_s, eX6_mirrored_10, eX6_mirrored_11, eX6_mirrored_14, eX6_mirrored_15, eX6_mirrored_16, eX6_mirrored_19, eX6_mirrored_20, eX6_mirrored_21, eX6_mirrored_22, eX6_mirrored_23, eX6_mirrored_26, eX6_mirrored_27, eX6_mirrored_30, eX6_mirrored_31, eX6_mirrored_34, eX6_mirrored_37, eX6_mirrored_39, eX6_mirrored_40, eX6_mirrored_41, eX6_mirrored_42, eX6_mirrored_45, eX6_mirrored_48, eX6_mirrored_49, eX6_mirrored_52, eX6_mirrored_53, fx_bd_some, Option.toList_some, Option.toList_none, List.nil_append, List.cons_append, fx_uo, fx_ui, Int.toNat_natCast, ↓reduceIte, Int.reduceEq, Int.reduceLT, Int.reduceLE, Int.reduceNeg, e1, s1, s2, v1]
          rcases hv with rfl | rfl
          all_goals
            simp (disch := omega) only [eX6_mirrored_0, eX6_mirrored_1, eX6_mirrored_2, eX6_mirrored_5, eX6_mirrored_6, eX6_mirrored_7_n, eX6_mirrored_7_s, eX6_mirrored_10, eX6_mirrored_11, eX6_mirrored_14, eX6_mirrored_15, eX6_mirrored_16, eX6_mirrored_19, eX6_mirrored_20, eX6_mirrored_21, eX6_mirrored_22, eX6_mirrored_23, eX6_mirrored_26, eX6_mirrored_27, eX6_mirrored_30, eX6_mirrored_31, eX6_mirrored_34, eX6_mirrored_37, eX6_mirrored_39, eX6_mirrored_40, eX6_mirrored_41, eX6_mirrored_42, eX6_mirrored_45, eX6_mirrored_48, eX6_mirrored_49, eX6_mirrored_52, eX6_mirrored_53, fx_bd_some, Option.toList_some, Option.toList_none, List.nil_append, List.cons_append, fx_uo, fx_ui, Int.toNat_natCast, ↓reduceIte, Int.reduceEq, Int.reduceLT, Int.reduceLE, Int.reduceNeg]
            by_cases q3 : t = 2
            · have h3 := h22 q3
              repeat (first | rw [if_pos (by omega)] | rw [if_neg (by omega)])
            · repeat (first | rw [if_pos (by omega)] | rw [if_neg (by omega)])
        · rw [entX7_mirrored]
          have hq4 : ((0 : Int) ≤ t ∧ (t : Int) ≤ 3) := qt
          simp (disch := omega) only [eX7_mirrored_0, eX7_mirrored_1, eX7_mirrored_2, eX7_mirrored_5, eX7_mirrored_8, eX7_mirrored_9, eX7_mirrored_10, eX7_mirrored_11, eX7_mirrored_14, eX7_mirrored_17, eX7_mirrored_18, eX7_mirrored_19, eX7_mirrored_20, eX7_mirrored_23, eX7_mirrored_24, eX7_mirrored_25, eX7_mirrored_26, eX7_mirrored_27, eX7_mirrored_30, eX7_mirrored_31, eX7_mirrored_32, eX7_mirrored_34, eX7_mirrored_35, eX7_mirrored_36, eX7_mirrored_39, eX7_mirrored_40, eX7_mirrored_42, eX7_mirrored_45, eX7_mirrored_47, eX7_mirrored_48, eX7_mirrored_49, eX7_mirrored_53, eX7_mirrored_54, eX7_mirrored_57, eX7_mirrored_58, eX7_mirrored_62, eX7_mirrored_64, eX7_mirrored_67, eX7_mirrored_68, eX7_mirrored_69, eX7_mirrored_72, eX7_mirrored_73, eX7_mirrored_74, eX7_mirrored_77, eX7_mirrored_78, eX7_mirrored_79, eX7_mirrored_80, eX7_mirrored_82, eX7_mirrored_83, eX7_mirrored_86, eX7_mirrored_87, eX7_mirrored_88, eX7_mirrored_91, eX7_mirrored_93, eX7_mirrored_96, eX7_mirrored_98, eX7_mirrored_100, eX7_mirrored_101, eX7_mirrored_104, eX7_mirrored_105, eX7_mirrored_106, eX7_mirrored_109, eX7_mirrored_111, eX7_mirrored_112, eX7_mirrored_113, eX7_mirrored_115, eX7_mirrored_116, eX7_mirrored_119, eX7_mirrored_120, eX7_mirrored_121, eX7_mirrored_124, eX7_mirrored_126, eX7_mirrored_129, eX7_mirrored_131, eX7_mirrored_133, eX7_mirrored_134, eX7_mirrored_135, eX7_mirrored_137, eX7_mirrored_139, eX7_mirrored_142, eX7_mirrored_143, eX7_mirrored_144, eX7_mirrored_146, eX7_mirrored_148, eX7_mirrored_151, eX7_mirrored_154, eX7_mirrored_155, eX7_mirrored_156, eX7_mirrored_159, eX7_mirrored_162, eX7_mirrored_165, eX7_mirrored_168, eX7_mirrored_169, fx_bd_some, Option.toList_some, Option.toList_none, List.nil_append, List.cons_append, fx_uo, fx_ui, Int.toNat_natCast, ↓reduceIte, Int.reduceEq, Int.reduceLT, Int.reduceLE, Int.reduceNeg, e2, m1, m2, sp_within, hq4, and_self]
          by_cases q3 : t = 2
          · rw [if_pos (by omega), if_pos (by have := h22 q3; omega)]; exact w1
          · rw [if_neg (by omega)]; exact w1
    · refine Ag.same h (-1) ?_ ?_
      · rw [entX6_mirrored]
        by_cases q2 : t < 0
        · simp (disch := omega) only [eX6_mirrored_0, eX6_mirrored_1, eX6_mirrored_2, eX6_mirrored_5, eX6_mirrored_6, eX6_mirrored_7_n, eX6_mirrored_7_s, eX6_mirrored_10, eX6_mirrored_11, eX6_mirrored_14, eX6_mirrored_15, eX6_mirrored_16, eX6_mirrored_19, eX6_mirrored_20, eX6_mirrored_22, eX6_mirrored_23, eX6_mirrored_26, eX6_mirrored_27, eX6_mirrored_30, eX6_mirrored_31, eX6_mirrored_34, eX6_mirrored_37, eX6_mirrored_39, eX6_mirrored_40, eX6_mirrored_41, eX6_mirrored_42, eX6_mirrored_45, eX6_mirrored_48, eX6_mirrored_49, eX6_mirrored_52, eX6_mirrored_53, fx_bd_some, Option.toList_some, Option.toList_none, List.nil_append, List.cons_append, fx_uo, fx_ui, Int.toNat_natCast, ↓reduceIte, Int.reduceEq, Int.reduceLT, Int.reduceLE, Int.reduceNeg, e1, eq_true q2]
        · simp (disch := omega) only [eX6_mirrored_0, eX6_mirrored_1, eX6_mirrored_2, eX6_mirrored_5, eX6_mirrored_6, eX6_mirrored_7_n, eX6_mirrored_7_s, eX6_mirrored_10, eX6_mirrored_11, eX6_mirrored_14, eX6_mirrored_15, eX6_mirrored_16, eX6_mirrored_19, eX6_mirrored_20, eX6_mirrored_22, eX6_mirrored_23, eX6_mirrored_26, eX6_mirrored_27, eX6_mirrored_30, eX6_mirrored_31, eX6_mirrored_34, eX6_mirrored_37, eX6_mirrored_39, eX6_mirrored_40, eX6_mirrored_41, eX6_mirrored_42, eX6_mirrored_45, eX6_mirrored_48, eX6_mirrored_49, eX6_mirrored_52, eX6_mirrored_53, fx_bd_some, Option.toList_some, Option.toList_none, List.nil_append, List.cons_append, fx_uo, fx_ui, Int.toNat_natCast, ↓reduceIte, Int.reduceEq, Int.reduceLT, Int.reduceLE, Int.reduceNeg, e1, eq_false q2, eq_true (show (3 : Int) < t by omega)]
      · rw [entX7_mirrored]
        simp (disch := omega) only [eX7_mirrored_0, eX7_mirrored_1, eX7_mirrored_2, eX7_mirrored_5, eX7_mirrored_8, eX7_mirrored_9, eX7_mirrored_10, eX7_mirrored_11, eX7_mirrored_14, eX7_mirrored_17, eX7_mirrored_18, eX7_mirrored_20, eX7_mirrored_23, eX7_mirrored_24, eX7_mirrored_25, eX7_mirrored_26, eX7_mirrored_27, eX7_mirrored_30, eX7_mirrored_31, eX7_mirrored_32, eX7_mirrored_34, eX7_mirrored_35, eX7_mirrored_36, eX7_mirrored_39, eX7_mirrored_40, eX7_mirrored_42, eX7_mirrored_45, eX7_mirrored_47, eX7_mirrored_48, eX7_mirrored_49, eX7_mirrored_53, eX7_mirrored_54, eX7_mirrored_57, eX7_mirrored_58, eX7_mirrored_62, eX7_mirrored_64, eX7_mirrored_67, eX7_mirrored_68, eX7_mirrored_69, eX7_mirrored_72, eX7_mirrored_73, eX7_mirrored_74, eX7_mirrored_77, eX7_mirrored_78, eX7_mirrored_79, eX7_mirrored_80, eX7_mirrored_82, eX7_mirrored_83, eX7_mirrored_86, eX7_mirrored_87, eX7_mirrored_88, eX7_mirrored_91, eX7_mirrored_93, eX7_mirrored_96, eX7_mirrored_98, eX7_mirrored_100, eX7_mirrored_101, eX7_mirrored_104, eX7_mirrored_105, eX7_mirrored_106, eX7_mirrored_109, eX7_mirrored_111, eX7_mirrored_112, eX7_mirrored_113, eX7_mirrored_115, eX7_mirrored_116, eX7_mirrored_119, eX7_mirrored_120, eX7_mirrored_121, eX7_mirrored_124, eX7_mirrored_126, eX7_mirrored_129, eX7_mirrored_131, eX7_mirrored_133, eX7_mirrored_134, eX7_mirrored_135, eX7_mirrored_137, eX7_mirrored_139, eX7_mirrored_142, eX7_mirrored_143, eX7_mirrored_144, eX7_mirrored_146, eX7_mirrored_148, eX7_mirrored_151, eX7_mirrored_154, eX7_mirrored_155, eX7_mirrored_156, eX7_mirrored_159, eX7_mirrored_162, eX7_mirrored_165, eX7_mirrored_168, eX7_mirrored_169, fx_bd_some, Option.toList_some, Option.toList_none, List.nil_append, List.cons_append, fx_uo, fx_ui, Int.toNat_natCast, ↓reduceIte, Int.reduceEq, Int.reduceLT, Int.reduceLE, Int.reduceNeg, e2, sp_within, qt]
  · have e1 := h.clN hc q
    have e2 := Inv.mcN (Rf := Rf) (Cf := Cf) h.1 hc q
    refine Ag.same h (-1) ?_ ?_
    · rw [entX6_mirrored]
      simp (disch := omega) only [eX6_mirrored_0, eX6_mirrored_1, eX6_mirrored_2, eX6_mirrored_5, eX6_mirrored_6, eX6_mirrored_7_n, eX6_mirrored_7_s, eX6_mirrored_10, eX6_mirrored_11, eX6_mirrored_14, eX6_mirrored_15, eX6_mirrored_16, eX6_mirrored_19, eX6_mirrored_20, eX6_mirrored_21, eX6_mirrored_22, eX6_mirrored_23, eX6_mirrored_26, eX6_mirrored_27, eX6_mirrored_30, eX6_mirrored_31, eX6_mirrored_34, eX6_mirrored_37, eX6_mirrored_39, eX6_mirrored_40, eX6_mirrored_41, eX6_mirrored_42, eX6_mirrored_45, eX6_mirrored_48, eX6_mirrored_49, eX6_mirrored_52, eX6_mirrored_53, fx_bd_some, Option.toList_some, Option.toList_none, List.nil_append, List.cons_append, fx_uo, fx_ui, Int.toNat_natCast, ↓reduceIte, Int.reduceEq, Int.reduceLT, Int.reduceLE, Int.reduceNeg, e1]
    · rw [entX7_mirrored]
      simp (disch := omega) only [eX7_mirrored_0, eX7_mirrored_1, eX7_mirrored_2, eX7_mirrored_5, eX7_mirrored_8, eX7_mirrored_9, eX7_mirrored_10, eX7_mirrored_11, eX7_mirrored_14, eX7_mirrored_17, eX7_mirrored_18, eX7_mirrored_19, eX7_mirrored_20, eX7_mirrored_23, eX7_mirrored_24, eX7_mirrored_25, eX7_mirrored_26, eX7_mirrored_27, eX7_mirrored_30, eX7_mirrored_31, eX7_mirrored_32, eX7_mirrored_34, eX7_mirrored_35, eX7_mirrored_36, eX7_mirrored_39, eX7_mirrored_40, eX7_mirrored_42, eX7_mirrored_45, eX7_mirrored_47, eX7_mirrored_48, eX7_mirrored_49, eX7_mirrored_53, eX7_mirrored_54, eX7_mirrored_57, eX7_mirrored_58, eX7_mirrored_62, eX7_mirrored_64, eX7_mirrored_67, eX7_mirrored_68, eX7_mirrored_69, eX7_mirrored_72, eX7_mirrored_73, eX7_mirrored_74, eX7_mirrored_77, eX7_mirrored_78, eX7_mirrored_79, eX7_mirrored_80, eX7_mirrored_82, eX7_mirrored_83, eX7_mirrored_86, eX7_mirrored_87, eX7_mirrored_88, eX7_mirrored_91, eX7_mirrored_93, eX7_mirrored_96, eX7_mirrored_98, eX7_mirrored_100, eX7_mirrored_101, eX7_mirrored_104, eX7_mirrored_105, eX7_mirrored_106, eX7_mirrored_109, eX7_mirrored_111, eX7_mirrored_112, eX7_mirrored_113, eX7_mirrored_115, eX7_mirrored_116, eX7_mirrored_119, eX7_mirrored_120, eX7_mirrored_121, eX7_mirrored_124, eX7_mirrored_126, eX7_mirrored_129, eX7_mirrored_131, eX7_mirrored_133, eX7_mirrored_134, eX7_mirrored_135, eX7_mirrored_137, eX7_mirrored_139, eX7_mirrored_142, eX7_mirrored_143, eX7_mirrored_144, eX7_mirrored_146, eX7_mirrored_148, eX7_mirrored_151, eX7_mirrored_154, eX7_mirrored_155, eX7_mirrored_156, eX7_mirrored_159, eX7_mirrored_162, eX7_mirrored_165, eX7_mirrored_168, eX7_mirrored_169, fx_bd_some, Option.toList_some, Option.toList_none, List.nil_append, List.cons_append, fx_uo, fx_ui, Int.toNat_natCast, ↓reduceIte, Int.reduceEq, Int.reduceLT, Int.reduceLE, Int.reduceNeg, e2]
