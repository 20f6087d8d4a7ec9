/-! board -/
theorem bd_in (Rf Cf : Nat → Nat) (nc : Nat) {g R br bc r1 c0 c1 : Nat} {σ0 : fx_M} {rows cols : Int} (hRf : Rf g = R) (hR : R ≤ 12) (hbc : bc ≤ 12) (hr1 : r1 < R) (hc1 : c1 < 12) (hcols : fx_in cols) (hc0 : 0 ≤ cols) (ec0 : cols / 24 = c0) (ec1 : cols % 24 = c1) (r : Nat) (hr : r ≤ r1) (u1 : Option fx_V) :
    ∀ (d n : Nat) (σ : fx_M), n + d = c1 + 1 → c0 ≤ n → (∀ o k x, ¬ (o = 14 ∧ k = g ∧ 12 * r + c0 ≤ x ∧ x < 12 * r + n) → σ o k x = σ0 o k x) → (∀ x, 12 * r + c0 ≤ x → x < 12 * r + n → σ 14 g x = 1) →
    ∃ (σ' : fx_M) (u6 : Option fx_V), fx_E (fx_S Rf Cf nc) 47 78 [some (.inr (some (0, 0))), u1, some (.inl rows), some (.inl cols), some (.inr (some (12, g))), some (.inl (r : Int)), some (.inl (n : Int))] [] σ = fx_E (fx_S Rf Cf nc) 47 63 [some (.inr (some (0, 0))), u1, some (.inl rows), some (.inl cols), some (.inr (some (12, g))), some (.inl ((r + 1 : Nat) : Int)), u6] [] σ' ∧ (∀ o k x, ¬ (o = 14 ∧ k = g ∧ 12 * r + c0 ≤ x ∧ x < 12 * r + (c1 + 1)) → σ' o k x = σ0 o k x) ∧ (∀ x, 12 * r + c0 ≤ x → x < 12 * r + (c1 + 1) → σ' 14 g x = 1) := by
  intro d
  induction d with
  | zero =>
    intro n σ hn hcn hfr hv
    obtain rfl : n = c1 + 1 := by omega
    have a : ((c1 : Int) < ((c1 + 1 : Nat) : Int)) = True := eq_true (by omega)
    rw [eX6_board_78]
    simp (disch := omega) only [eX6_board_0, eX6_board_1, eX6_board_2, eX6_board_5, eX6_board_7, eX6_board_9_n, eX6_board_9_s, eX6_board_12, eX6_board_13, eX6_board_15, eX6_board_18, eX6_board_21, eX6_board_24, eX6_board_27, eX6_board_28, eX6_board_30, eX6_board_33, eX6_board_36, eX6_board_39, eX6_board_42, eX6_board_43, eX6_board_44, eX6_board_46, eX6_board_49, eX6_board_51, eX6_board_54, eX6_board_56, eX6_board_57, eX6_board_58, eX6_board_60, eX6_board_61, eX6_board_65, eX6_board_66, eX6_board_68, eX6_board_69, eX6_board_72, eX6_board_73, eX6_board_75, eX6_board_76, eX6_board_80, eX6_board_81, eX6_board_83, eX6_board_84, eX6_board_87, eX6_board_89, eX6_board_92, eX6_board_94, eX6_board_96, eX6_board_97, eX6_board_99, eX6_board_100, eX6_board_101, eX6_board_102, eX6_board_105, eX6_board_108, eX6_board_111, eX6_board_114, eX6_board_116, eX6_board_117, eX6_board_120, eX6_board_121, eX6_board_122, eX6_board_125, eX6_board_127, eX6_board_130, fx_bd_some, Option.toList_some, Option.toList_none, List.nil_append, List.cons_append, fx_uo, fx_ui, Int.toNat_natCast, ↓reduceIte, Int.reduceEq, Int.reduceLT, Int.reduceLE, Int.reduceNeg, ec1, a]
    rw [show (r : Int) + 1 = ((r + 1 : Nat) : Int) by omega]
    exact ⟨σ, _, rfl, hfr, hv⟩
  | succ d ih =>
    intro n σ hn hcn hfr hv
    have a : ((c1 : Int) < (n : Int)) = False := eq_false (by omega)
    have i1 : ((r : Int) * 12 + (n : Int)).toNat = 12 * r + n := by omega
    rw [eX6_board_78]
    simp (disch := omega) only [eX6_board_0, eX6_board_1, eX6_board_2, eX6_board_5, eX6_board_7, eX6_board_9_n, eX6_board_9_s, eX6_board_12, eX6_board_13, eX6_board_15, eX6_board_18, eX6_board_21, eX6_board_24, eX6_board_27, eX6_board_28, eX6_board_30, eX6_board_33, eX6_board_36, eX6_board_39, eX6_board_42, eX6_board_43, eX6_board_44, eX6_board_46, eX6_board_49, eX6_board_51, eX6_board_54, eX6_board_56, eX6_board_57, eX6_board_58, eX6_board_60, eX6_board_61, eX6_board_65, eX6_board_66, eX6_board_68, eX6_board_69, eX6_board_72, eX6_board_73, eX6_board_75, eX6_board_76, eX6_board_80, eX6_board_81, eX6_board_83, eX6_board_84, eX6_board_87, eX6_board_89, eX6_board_92, eX6_board_94, eX6_board_96, eX6_board_97, eX6_board_99, eX6_board_100, eX6_board_101, eX6_board_102, eX6_board_105, eX6_board_108, eX6_board_111, eX6_board_114, eX6_board_116, eX6_board_117, eX6_board_120, eX6_board_121, eX6_board_122, eX6_board_125, eX6_board_127, eX6_board_130, fx_bd_some, Option.toList_some, Option.toList_none, List.nil_append, List.cons_append, fx_uo, fx_ui, Int.toNat_natCast, ↓reduceIte, Int.reduceEq, Int.reduceLT, Int.reduceLE, Int.reduceNeg, ec1, a, i1]
    rw [show (n : Int) + 1 = ((n + 1 : Nat) : Int) by omega]
    refine ih (n + 1) _ (by omega) (by omega) (fun o k x ho => ?_) (fun x h1 h2 => ?_)
    · unfold fx_up
      rw [if_neg (by omega)]
      exact hfr o k x (by omega)
    · rw [fx_ui]
      by_cases q : x = 12 * r + n
      · rw [if_pos q]
      · rw [if_neg q]; exact hv x h1 (by omega)
def inR (r0 r1 c0 c1 r n : Nat) : Bool := decide (r0 ≤ r ∧ r ≤ r1 ∧ c0 ≤ n ∧ n ≤ c1)
theorem bd_lp (Rf Cf : Nat → Nat) (nc : Nat) {g R br bc r0 r1 c0 c1 : Nat} {σ0 : fx_M} {rows cols : Int} {sh : Nat → Nat → Bool} (hRf : Rf g = R) (hR : R ≤ 12) (hbc : bc ≤ 12) (hr1 : r1 < R) (hc1 : c1 < 12) (hc01 : c0 ≤ c1) (hrows : fx_in rows) (hr0 : 0 ≤ rows) (er1 : rows % 24 = r1) (hcols : fx_in cols) (hc0 : 0 ≤ cols) (ec0 : cols / 24 = c0) (ec1 : cols % 24 = c1) (u1 : Option fx_V) :
    ∀ (d r : Nat) (σ : fx_M) (u6 : Option fx_V), r + d = r1 + 1 → r0 ≤ r → (∀ o k x, ¬ (o = 14 ∧ k = g) → σ o k x = σ0 o k x) → (∀ r' n', r' < R → n' < 12 → σ 14 g (12 * r' + n') = if sh r' n' = true ∨ (r0 ≤ r' ∧ r' < r ∧ c0 ≤ n' ∧ n' ≤ c1) then 1 else 0) →
    ∃ (σ' : fx_M) (v5 v6 : Option fx_V), fx_E (fx_S Rf Cf nc) 47 63 [some (.inr (some (0, 0))), u1, some (.inl rows), some (.inl cols), some (.inr (some (12, g))), some (.inl (r : Int)), u6] [] σ = fx_E (fx_S Rf Cf nc) 47 114 [some (.inr (some (0, 0))), u1, some (.inl rows), some (.inl cols), some (.inr (some (12, g))), v5, v6] [] σ' ∧ (∀ o k x, ¬ (o = 14 ∧ k = g) → σ' o k x = σ0 o k x) ∧ (∀ r' n', r' < R → n' < 12 → σ' 14 g (12 * r' + n') = if (sh r' n' || inR r0 r1 c0 c1 r' n') = true then 1 else 0) := by
  intro d
  induction d with
  | zero =>
    intro r σ u6 hr hr0r hfr hv
    obtain rfl : r = r1 + 1 := by omega
    have a : ((r1 : Int) < ((r1 + 1 : Nat) : Int)) = True := eq_true (by omega)
    rw [eX6_board_63]
    simp (disch := omega) only [eX6_board_0, eX6_board_1, eX6_board_2, eX6_board_5, eX6_board_7, eX6_board_9_n, eX6_board_9_s, eX6_board_12, eX6_board_13, eX6_board_15, eX6_board_18, eX6_board_21, eX6_board_24, eX6_board_27, eX6_board_28, eX6_board_30, eX6_board_33, eX6_board_36, eX6_board_39, eX6_board_42, eX6_board_43, eX6_board_44, eX6_board_46, eX6_board_49, eX6_board_51, eX6_board_54, eX6_board_56, eX6_board_57, eX6_board_58, eX6_board_60, eX6_board_61, eX6_board_65, eX6_board_66, eX6_board_68, eX6_board_69, eX6_board_72, eX6_board_73, eX6_board_75, eX6_board_76, eX6_board_80, eX6_board_81, eX6_board_83, eX6_board_84, eX6_board_87, eX6_board_89, eX6_board_92, eX6_board_94, eX6_board_96, eX6_board_97, eX6_board_99, eX6_board_100, eX6_board_101, eX6_board_102, eX6_board_105, eX6_board_108, eX6_board_111, eX6_board_116, eX6_board_117, eX6_board_120, eX6_board_121, eX6_board_122, eX6_board_125, eX6_board_127, eX6_board_130, fx_bd_some, Option.toList_some, Option.toList_none, List.nil_append, List.cons_append, fx_uo, fx_ui, Int.toNat_natCast, ↓reduceIte, Int.reduceEq, Int.reduceLT, Int.reduceLE, Int.reduceNeg, er1, a]
    refine ⟨σ, _, _, rfl, hfr, fun r' n' h1 h2 => ?_⟩
    rw [hv r' n' h1 h2]
    unfold inR
    by_cases q : sh r' n' = true
    · simp [q]
    · have : (r' < r1 + 1) ↔ r' ≤ r1 := by omega
      simp [q, this]
  | succ d ih =>
    intro r σ u6 hr hr0r hfr hv
    have a : ((r1 : Int) < (r : Int)) = False := eq_false (by omega)
    obtain ⟨σ', w6, x1, x2, x3⟩ := bd_in Rf Cf nc (σ0 := σ) (rows := rows) (br := br) (bc := bc) hRf hR hbc hr1 hc1 hcols hc0 ec0 ec1 r (by omega) u1 (c1 + 1 - c0) c0 σ (by omega) (by omega) (fun o k x _ => rfl) (fun x h1 h2 => by omega)
    rw [eX6_board_63]
    simp (disch := omega) only [eX6_board_0, eX6_board_1, eX6_board_2, eX6_board_5, eX6_board_7, eX6_board_9_n, eX6_board_9_s, eX6_board_12, eX6_board_13, eX6_board_15, eX6_board_18, eX6_board_21, eX6_board_24, eX6_board_27, eX6_board_28, eX6_board_30, eX6_board_33, eX6_board_36, eX6_board_39, eX6_board_42, eX6_board_43, eX6_board_44, eX6_board_46, eX6_board_49, eX6_board_51, eX6_board_54, eX6_board_56, eX6_board_57, eX6_board_58, eX6_board_60, eX6_board_61, eX6_board_65, eX6_board_66, eX6_board_68, eX6_board_69, eX6_board_72, eX6_board_73, eX6_board_75, eX6_board_76, eX6_board_80, eX6_board_81, eX6_board_83, eX6_board_84, eX6_board_87, eX6_board_89, eX6_board_92, eX6_board_94, eX6_board_96, eX6_board_97, eX6_board_99, eX6_board_100, eX6_board_101, eX6_board_102, eX6_board_105, eX6_board_108, eX6_board_111, eX6_board_116, eX6_board_117, eX6_board_120, eX6_board_121, eX6_board_122, eX6_board_125, eX6_board_127, eX6_board_130, fx_bd_some, Option.toList_some, Option.toList_none, List.nil_append, List.cons_append, fx_uo, fx_ui, Int.toNat_natCast, ↓reduceIte, Int.reduceEq, Int.reduceLT, Int.reduceLE, Int.reduceNeg, er1, a, ec0]
    rw [x1]
    refine ih (r + 1) σ' w6 (by omega) (by omega) (fun o k x ho => by rw [x2 o k x (by omega)]; exact hfr o k x ho) (fun r' n' h1 h2 => ?_)
    by_cases q : r' = r ∧ c0 ≤ n' ∧ n' ≤ c1
    · rw [x3 _ (by omega) (by omega), if_pos (Or.inr (by omega))]
    · rw [x2 _ _ _ (by omega), hv r' n' h1 h2]
      have : (r0 ≤ r' ∧ r' < r + 1 ∧ c0 ≤ n' ∧ n' ≤ c1) ↔ (r0 ≤ r' ∧ r' < r ∧ c0 ≤ n' ∧ n' ≤ c1) := by omega
      simp only [this]
theorem ag_board (Rf Cf : Nat → Nat) (nc : Nat) {σ : fx_M} (h : Inv Rf Cf nc σ) (c rows cols : Int) (hc : fx_in c) (hrows : fx_in rows) (hcols : fx_in cols) : Ag Rf Cf nc 47 93 [.inl c, .inl rows, .inl cols] σ := by
  by_cases q : 0 ≤ c ∧ c < nc
  · obtain ⟨g, rfl⟩ : ∃ g : Nat, c = g := ⟨c.toNat, by omega⟩
    have hg : g < nc := by omega
    have hn := h.1.1
    have e1 := h.clY hg
    have e2 := Inv.mcY (Rf := Rf) (Cf := Cf) h.1 hg
    obtain ⟨R, C, br, bc, f, b, so, pr, pc, ph, sh, to, dp, k1, k2, k3⟩ := h.2.1 g hg
    obtain ⟨⟨b1, b2⟩, ⟨b3, b4⟩, ⟨b5, b6⟩, ⟨b7, b8⟩, -⟩ := id k1.1
    obtain ⟨a1, a2, ⟨a3, a4, a5⟩, ⟨a6, a7, a8, a9⟩, a10, a11⟩ := id k2
    obtain ⟨⟨m1, m2, m3, m4, m5⟩, m6, m7, m8, m9, m10, m11⟩ := id k3
    have m12 := m7.2.1
    have hb6 := k1.2.2.1
    have c2 : σ 15 g 5 = br := k2.2.1.2.2.1
    have c3 : σ 15 g 6 = bc := k2.2.1.2.2.2.1
    have s1 := sp_isSpan Rf Cf nc σ rows br hrows (by omega)
    have s2 := sp_isSpan Rf Cf nc σ cols bc hcols (by omega)
    by_cases q1 : 0 ≤ rows ∧ rows / 24 ≤ rows % 24 ∧ rows % 24 < br
    · by_cases q2 : 0 ≤ cols ∧ cols / 24 ≤ cols % 24 ∧ cols % 24 < bc
      · rw [if_pos q1] at s1
        rw [if_pos q2] at s2
        have x1 : (rows < 0) = False := eq_false (by omega)
        have x2 : (cols < 0) = False := eq_false (by omega)
        have x3 : (rows % 24 < rows / 24) = False := eq_false (by omega)
        have x4 : (cols % 24 < cols / 24) = False := eq_false (by omega)
        have x5 : (rows % 24 < (br : Int)) = True := eq_true (by omega)
        have x6 : (cols % 24 < (bc : Int)) = True := eq_true (by omega)
        by_cases qb : b = 6
        · refine Ag.same h (-2) ?_ ?_
          · rw [entX6_board]
            simp (disch := omega) only [eX6_board_0, eX6_board_1, eX6_board_2, eX6_board_5, eX6_board_7, eX6_board_9_n, eX6_board_9_s, eX6_board_12, eX6_board_13, eX6_board_15, eX6_board_18, eX6_board_21, eX6_board_24, eX6_board_27, eX6_board_28, eX6_board_30, eX6_board_33, eX6_board_36, eX6_board_39, eX6_board_42, eX6_board_43, eX6_board_44, eX6_board_46, eX6_board_49, eX6_board_51, eX6_board_54, eX6_board_56, eX6_board_58, eX6_board_60, eX6_board_61, eX6_board_65, eX6_board_66, eX6_board_68, eX6_board_69, eX6_board_72, eX6_board_73, eX6_board_75, eX6_board_76, eX6_board_80, eX6_board_81, eX6_board_83, eX6_board_84, eX6_board_87, eX6_board_89, eX6_board_92, eX6_board_94, eX6_board_96, eX6_board_97, eX6_board_99, eX6_board_100, eX6_board_101, eX6_board_102, eX6_board_105, eX6_board_108, eX6_board_111, eX6_board_114, eX6_board_116, eX6_board_117, eX6_board_120, eX6_board_121, eX6_board_122, eX6_board_125, eX6_board_127, eX6_board_130, fx_bd_some, Option.toList_some, Option.toList_none, List.nil_append, List.cons_append, fx_uo, fx_ui, Int.toNat_natCast, ↓reduceIte, Int.reduceEq, Int.reduceLT, Int.reduceLE, Int.reduceNeg, e1, c2, c3, s1, s2, a7]
            repeat (first | rw [if_pos (by omega)] | rw [if_neg (by omega)])
          · rw [entX7_board]
            simp (disch := omega) only [eX7_board_0, eX7_board_1, eX7_board_2, eX7_board_5, eX7_board_8, eX7_board_9, eX7_board_12, eX7_board_13, eX7_board_16, eX7_board_17, eX7_board_19, eX7_board_20, eX7_board_21, eX7_board_23, eX7_board_24, eX7_board_27, eX7_board_28, eX7_board_30, eX7_board_31, eX7_board_32, eX7_board_35, eX7_board_36, eX7_board_37, eX7_board_40, eX7_board_41, eX7_board_43, eX7_board_44, eX7_board_45, eX7_board_47, eX7_board_48, eX7_board_51, eX7_board_52, eX7_board_54, eX7_board_55, eX7_board_56, eX7_board_59, eX7_board_60, eX7_board_61, eX7_board_64, eX7_board_65, eX7_board_66, eX7_board_67, eX7_board_70, eX7_board_71, eX7_board_72, eX7_board_74, eX7_board_77, eX7_board_79, eX7_board_81, eX7_board_82, eX7_board_83, eX7_board_85, eX7_board_86, eX7_board_87, eX7_board_89, eX7_board_90, eX7_board_91, eX7_board_93, eX7_board_94, eX7_board_95, eX7_board_97, eX7_board_98, eX7_board_101, eX7_board_102, eX7_board_105, eX7_board_106, eX7_board_107, fx_bd_some, Option.toList_some, Option.toList_none, List.nil_append, List.cons_append, fx_uo, fx_ui, Int.toNat_natCast, ↓reduceIte, Int.reduceEq, Int.reduceLT, Int.reduceLE, Int.reduceNeg, e2, m3, m4, x1, x2, x3, x4, x5, x6, m12]
            repeat (first | rw [if_pos (by omega)] | rw [if_neg (by omega)])
        · obtain ⟨r0, er0⟩ : ∃ r : Nat, rows / 24 = r := ⟨(rows / 24).toNat, by omega⟩
          obtain ⟨r1, er1⟩ : ∃ r : Nat, rows % 24 = r := ⟨(rows % 24).toNat, by omega⟩
          obtain ⟨c0, ec0⟩ : ∃ r : Nat, cols / 24 = r := ⟨(cols / 24).toNat, by omega⟩
          obtain ⟨c1, ec1⟩ : ∃ r : Nat, cols % 24 = r := ⟨(cols % 24).toNat, by omega⟩
          obtain ⟨σ1, v5, v6, w1, w2, w3⟩ := bd_lp Rf Cf nc (g := g) (R := R) (br := br) (bc := bc) (r0 := r0) (r1 := r1) (c0 := c0) (c1 := c1) (σ0 := σ) (rows := rows) (cols := cols) (sh := sh) a1.1 b2 (by omega) (by omega) (by omega) (by omega) hrows (by omega) er1 hcols (by omega) ec0 ec1 (some (.inl (g : Int))) (r1 + 1 - r0) r0 σ none (by omega) (by omega) (fun _ _ _ _ => rfl) (fun r' n' h1 h2 => by
            rw [a10 r' n' h1 h2]
            have : ¬ (r0 ≤ r' ∧ r' < r0 ∧ c0 ≤ n' ∧ n' ≤ c1) := by omega
            simp [this])
          obtain ⟨τ, hτ⟩ : ∃ τ, τ = fx_up σ1 12 g 7 ((b : Int) + 1) := ⟨_, rfl⟩
          have fτ : ∀ o k x, ¬ (o = 12 ∧ k = g ∧ x = 7) → ¬ (o = 14 ∧ k = g) → τ o k x = σ o k x := fun o k x h1 h2 => by
            rw [hτ]; unfold fx_up; rw [if_neg (by omega), w2 o k x h2]
          have e2 := Inv.mcY (Rf := Rf) (Cf := Cf) (h.1.of (σ' := τ) (fun o k x ho => fτ o k x (by unfold gl at ho; omega) (by unfold gl at ho; omega))) hg
          have n3 : τ 37 0 g = br := by rw [fτ _ _ _ (by omega) (by omega)]; exact m3
          have n4 : τ 38 0 g = bc := by rw [fτ _ _ _ (by omega) (by omega)]; exact m4
          have n12 : τ 42 0 g = b := by rw [fτ _ _ _ (by omega) (by omega)]; exact m12
          have e6 := sp_addBoard Rf Cf nc τ g b r0 r1 c0 c1 (by omega) (by omega) n12
          obtain ⟨ρ, hρ⟩ : ∃ ρ, ρ = fx_up (fx_up (fx_up (fx_up (fx_up τ 43 0 (6 * g + b) r0) 44 0 (6 * g + b) r1) 45 0 (6 * g + b) c0) 46 0 (6 * g + b) c1) 42 0 g ((b : Int) + 1) := ⟨_, rfl⟩
          rw [← hρ] at e6
          have fρ : ∀ o k x, ¬ (k = 0 ∧ 43 ≤ o ∧ o ≤ 46 ∧ x = 6 * g + b) → ¬ (k = 0 ∧ o = 42 ∧ x = g) → ρ o k x = τ o k x := fun o k x h1 h2 => by
            rw [hρ]; unfold fx_up
            rw [if_neg (by omega), if_neg (by omega), if_neg (by omega), if_neg (by omega), if_neg (by omega)]
          have gρ : ∀ o k x, ¬ (o = 12 ∧ k = g ∧ x = 7) → ¬ (o = 14 ∧ k = g) → ¬ (k = 0 ∧ 43 ≤ o ∧ o ≤ 46 ∧ x = 6 * g + b) → ¬ (k = 0 ∧ o = 42 ∧ x = g) → ρ o k x = σ o k x := fun o k x h1 h2 h3 h4 => by rw [fρ o k x h3 h4, fτ o k x h1 h2]
          have p43 : ρ 43 0 (6 * g + b) = r0 := by rw [hρ, fx_uo (by omega), fx_uo (by omega), fx_uo (by omega), fx_uo (by omega), fx_ui, if_pos rfl]
          have p44 : ρ 44 0 (6 * g + b) = r1 := by rw [hρ, fx_uo (by omega), fx_uo (by omega), fx_uo (by omega), fx_ui, if_pos rfl]
          have p45 : ρ 45 0 (6 * g + b) = c0 := by rw [hρ, fx_uo (by omega), fx_uo (by omega), fx_ui, if_pos rfl]
          have p46 : ρ 46 0 (6 * g + b) = c1 := by rw [hρ, fx_uo (by omega), fx_ui, if_pos rfl]
          have p42 : ρ 42 0 g = (b : Int) + 1 := by rw [hρ, fx_ui, if_pos rfl]
          have hb1 : σ1 12 g 7 = b := by rw [w2 _ _ _ (by omega)]; exact a7
          refine ⟨(b : Int) + 1, τ, ρ, ?_, ?_, h.put g hg (fun o k x ho => ?_) (fun o k x h1 h2 h3 h4 => ?_) (fun c o i h1 h2 h3 => ?_) ⟨R, C, br, bc, f, b + 1, so, pr, pc, ph, fun r n => sh r n || inR r0 r1 c0 c1 r n, to, dp, ⟨k1.1, k1.2.1, by omega, k1.2.2.2.1, k1.2.2.2.2⟩, ?_, ?_⟩⟩
          · rw [entX6_board]
            simp (disch := omega) only [eX6_board_0, eX6_board_1, eX6_board_2, eX6_board_5, eX6_board_7, eX6_board_9_n, eX6_board_9_s, eX6_board_12, eX6_board_13, eX6_board_15, eX6_board_18, eX6_board_21, eX6_board_24, eX6_board_27, eX6_board_28, eX6_board_30, eX6_board_33, eX6_board_36, eX6_board_39, eX6_board_42, eX6_board_43, eX6_board_44, eX6_board_46, eX6_board_49, eX6_board_51, eX6_board_54, eX6_board_56, eX6_board_57, eX6_board_58, eX6_board_60, eX6_board_61, eX6_board_65, eX6_board_66, eX6_board_68, eX6_board_69, eX6_board_72, eX6_board_73, eX6_board_75, eX6_board_76, eX6_board_80, eX6_board_81, eX6_board_83, eX6_board_84, eX6_board_87, eX6_board_89, eX6_board_92, eX6_board_94, eX6_board_96, eX6_board_97, eX6_board_99, eX6_board_100, eX6_board_101, eX6_board_102, eX6_board_105, eX6_board_108, eX6_board_111, eX6_board_114, eX6_board_116, eX6_board_117, eX6_board_120, eX6_board_121, eX6_board_122, eX6_board_125, eX6_board_127, eX6_board_130, fx_bd_some, Option.toList_some, Option.toList_none, List.nil_append, List.cons_append, fx_uo, fx_ui, Int.toNat_natCast, ↓reduceIte, Int.reduceEq, Int.reduceLT, Int.reduceLE, Int.reduceNeg, e1, c2, c3, s1, s2, a7, er0]
            repeat (first | rw [if_pos (by omega)] | rw [if_neg (by omega)])
            refine w1.trans ?_
            simp (disch := omega) only [eX6_board_0, eX6_board_1, eX6_board_2, eX6_board_5, eX6_board_7, eX6_board_9_n, eX6_board_9_s, eX6_board_12, eX6_board_13, eX6_board_15, eX6_board_18, eX6_board_21, eX6_board_24, eX6_board_27, eX6_board_28, eX6_board_30, eX6_board_33, eX6_board_36, eX6_board_39, eX6_board_42, eX6_board_43, eX6_board_44, eX6_board_46, eX6_board_49, eX6_board_51, eX6_board_54, eX6_board_56, eX6_board_57, eX6_board_58, eX6_board_60, eX6_board_61, eX6_board_65, eX6_board_66, eX6_board_68, eX6_board_69, eX6_board_72, eX6_board_73, eX6_board_75, eX6_board_76, eX6_board_80, eX6_board_81, eX6_board_83, eX6_board_84, eX6_board_87, eX6_board_89, eX6_board_92, eX6_board_94, eX6_board_96, eX6_board_97, eX6_board_99, eX6_board_100, eX6_board_101, eX6_board_102, eX6_board_105, eX6_board_108, eX6_board_111, eX6_board_114, eX6_board_116, eX6_board_117, eX6_board_120, eX6_board_121, eX6_board_122, eX6_board_125, eX6_board_127, eX6_board_130, fx_bd_some, Option.toList_some, Option.toList_none, List.nil_append, List.cons_append, fx_uo, fx_ui, Int.toNat_natCast, ↓reduceIte, Int.reduceEq, Int.reduceLT, Int.reduceLE, Int.reduceNeg, hb1]
            rw [hτ]
          · rw [entX7_board]
            simp (disch := omega) only [eX7_board_0, eX7_board_1, eX7_board_2, eX7_board_5, eX7_board_8, eX7_board_9, eX7_board_12, eX7_board_13, eX7_board_16, eX7_board_17, eX7_board_19, eX7_board_20, eX7_board_21, eX7_board_23, eX7_board_24, eX7_board_27, eX7_board_28, eX7_board_30, eX7_board_31, eX7_board_32, eX7_board_35, eX7_board_36, eX7_board_37, eX7_board_40, eX7_board_41, eX7_board_43, eX7_board_44, eX7_board_45, eX7_board_47, eX7_board_48, eX7_board_51, eX7_board_52, eX7_board_54, eX7_board_55, eX7_board_56, eX7_board_59, eX7_board_60, eX7_board_61, eX7_board_64, eX7_board_65, eX7_board_66, eX7_board_67, eX7_board_70, eX7_board_71, eX7_board_72, eX7_board_74, eX7_board_77, eX7_board_79, eX7_board_80, eX7_board_81, eX7_board_82, eX7_board_83, eX7_board_85, eX7_board_86, eX7_board_87, eX7_board_89, eX7_board_90, eX7_board_91, eX7_board_93, eX7_board_94, eX7_board_95, eX7_board_97, eX7_board_98, eX7_board_101, eX7_board_102, eX7_board_105, eX7_board_106, eX7_board_107, fx_bd_some, Option.toList_some, Option.toList_none, List.nil_append, List.cons_append, fx_uo, fx_ui, Int.toNat_natCast, ↓reduceIte, Int.reduceEq, Int.reduceLT, Int.reduceLE, Int.reduceNeg, e2, n3, n4, x1, x2, x3, x4, x5, x6, n12]
            repeat (first | rw [if_pos (by omega)] | rw [if_neg (by omega)])
            simp (disch := omega) only [eX7_board_0, eX7_board_1, eX7_board_2, eX7_board_5, eX7_board_8, eX7_board_9, eX7_board_12, eX7_board_13, eX7_board_16, eX7_board_17, eX7_board_19, eX7_board_20, eX7_board_21, eX7_board_23, eX7_board_24, eX7_board_27, eX7_board_28, eX7_board_30, eX7_board_31, eX7_board_32, eX7_board_35, eX7_board_36, eX7_board_37, eX7_board_40, eX7_board_41, eX7_board_43, eX7_board_44, eX7_board_45, eX7_board_47, eX7_board_48, eX7_board_51, eX7_board_52, eX7_board_54, eX7_board_55, eX7_board_56, eX7_board_59, eX7_board_60, eX7_board_61, eX7_board_64, eX7_board_65, eX7_board_66, eX7_board_67, eX7_board_70, eX7_board_71, eX7_board_72, eX7_board_74, eX7_board_77, eX7_board_79, eX7_board_80, eX7_board_81, eX7_board_82, eX7_board_83, eX7_board_85, eX7_board_86, eX7_board_87, eX7_board_89, eX7_board_90, eX7_board_91, eX7_board_93, eX7_board_94, eX7_board_95, eX7_board_97, eX7_board_98, eX7_board_101, eX7_board_102, eX7_board_105, eX7_board_106, eX7_board_107, fx_bd_some, Option.toList_some, Option.toList_none, List.nil_append, List.cons_append, fx_uo, fx_ui, Int.toNat_natCast, ↓reduceIte, Int.reduceEq, Int.reduceLT, Int.reduceLE, Int.reduceNeg, er0, er1, ec0, ec1, e6, p42]
          · unfold gl at ho
            rw [gρ _ _ _ (by omega) (by omega) (by omega) (by omega)]
          · rw [gρ _ _ _ (by omega) (by omega) (by omega) (by omega)]
          · unfold inB at h3
            rw [gρ _ _ _ (by omega) (by omega) (by omega) (by omega)]
          · have e' : ∀ i, i ≠ 7 → ρ 12 g i = σ 12 g i := fun i h1 => gρ _ _ _ (by omega) (by omega) (by omega) (by omega)
            refine ⟨a1, a2.of (fun o i h1 h2 => gρ _ _ _ (by omega) (by omega) (by omega) (by omega)), ⟨by rw [e' _ (by omega)]; exact a3, by rw [e' _ (by omega)]; exact a4, by rw [e' _ (by omega)]; exact a5⟩, ⟨by rw [e' _ (by omega)]; exact a6, ?_, by rw [e' _ (by omega)]; exact a8, by rw [e' _ (by omega)]; exact a9⟩, fun r n hr hn => ?_, fun k hk hkc => by rw [gρ _ _ _ (by omega) (by omega) (by omega) (by omega)]; exact a11 k hk hkc⟩
            · rw [fρ _ _ _ (by omega) (by omega), hτ, fx_ui, if_pos rfl]; simp
            · rw [fρ _ _ _ (by omega) (by omega), hτ, fx_uo (by omega)]; exact w3 r n hr hn
          · have e : ∀ o i, (30 ≤ o ∧ o ≤ 41) → ρ o 0 i = σ o 0 i := fun o i h1 => gρ _ _ _ (by omega) (by omega) (by omega) (by omega)
            have eb : ∀ o i, 43 ≤ o → o ≤ 46 → i ≠ 6 * g + b → ρ o 0 i = σ o 0 i := fun o i h1 h2 h3 => gρ _ _ _ (by omega) (by omega) (by omega) (by omega)
            refine ⟨k3.1.of (fun o i ho => e o i (by omega)), by rw [e _ _ (by omega)]; exact m6, ⟨by omega, by rw [p42]; simp, fun j hj => ?_⟩, fun r n => ?_, by rw [e _ _ (by omega)]; exact m9, by rw [e _ _ (by omega)]; exact m10, fun k hk => by rw [e _ _ (by omega)]; exact m11 k hk⟩
            · by_cases hjb : j = b
              · subst hjb
                rw [p43, p44, p45, p46]
                refine ⟨?_, ?_, ?_, ?_⟩ <;> omega
              · rw [eb _ _ (by omega) (by omega) (by omega), eb _ _ (by omega) (by omega) (by omega), eb _ _ (by omega) (by omega) (by omega), eb _ _ (by omega) (by omega) (by omega)]
                exact m7.2.2 j (by omega)
            · have hs : shB g b ρ r n = shB g b σ r n := by
                unfold shB
                have key : ∀ m, m ≤ b → anyP m (fun j => decide (ρ 43 0 (6 * g + j) ≤ r ∧ (r : Int) ≤ ρ 44 0 (6 * g + j) ∧ ρ 45 0 (6 * g + j) ≤ n ∧ (n : Int) ≤ ρ 46 0 (6 * g + j))) = anyP m (fun j => decide (σ 43 0 (6 * g + j) ≤ r ∧ (r : Int) ≤ σ 44 0 (6 * g + j) ∧ σ 45 0 (6 * g + j) ≤ n ∧ (n : Int) ≤ σ 46 0 (6 * g + j))) := by
                  intro m
                  induction m with
                  | zero => intro _; rfl
                  | succ m ih =>
                    intro hm
                    simp only [anyP]
                    rw [ih (by omega), eb 43 _ (by omega) (by omega) (by omega), eb 44 _ (by omega) (by omega) (by omega), eb 45 _ (by omega) (by omega) (by omega), eb 46 _ (by omega) (by omega) (by omega)]
                exact key b (Nat.le_refl _)
              have hs1 : shB g (b + 1) ρ r n = (shB g b ρ r n || decide (ρ 43 0 (6 * g + b) ≤ r ∧ (r : Int) ≤ ρ 44 0 (6 * g + b) ∧ ρ 45 0 (6 * g + b) ≤ n ∧ (n : Int) ≤ ρ 46 0 (6 * g + b))) := rfl
              rw [hs1, hs, m8, p43, p44, p45, p46]
              unfold inR
              congr 1
              apply decide_eq_decide.2
              omega
      · rw [if_pos q1] at s1
        rw [if_neg q2] at s2
        have x1 : (rows < 0) = False := eq_false (by omega)
        refine Ag.same h (-1) ?_ ?_
        · rw [entX6_board]
          simp (disch := omega) only [eX6_board_0, eX6_board_1, eX6_board_2, eX6_board_5, eX6_board_7, eX6_board_9_n, eX6_board_9_s, eX6_board_12, eX6_board_13, eX6_board_15, eX6_board_18, eX6_board_21, eX6_board_24, eX6_board_27, eX6_board_28, eX6_board_30, eX6_board_33, eX6_board_36, eX6_board_39, eX6_board_42, eX6_board_43, eX6_board_44, eX6_board_46, eX6_board_49, eX6_board_51, eX6_board_54, eX6_board_56, eX6_board_57, eX6_board_58, eX6_board_60, eX6_board_61, eX6_board_65, eX6_board_66, eX6_board_68, eX6_board_69, eX6_board_72, eX6_board_73, eX6_board_75, eX6_board_76, eX6_board_80, eX6_board_81, eX6_board_83, eX6_board_84, eX6_board_87, eX6_board_89, eX6_board_92, eX6_board_94, eX6_board_96, eX6_board_97, eX6_board_99, eX6_board_100, eX6_board_101, eX6_board_102, eX6_board_105, eX6_board_108, eX6_board_111, eX6_board_114, eX6_board_116, eX6_board_117, eX6_board_120, eX6_board_121, eX6_board_122, eX6_board_125, eX6_board_127, eX6_board_130, fx_bd_some, Option.toList_some, Option.toList_none, List.nil_append, List.cons_append, fx_uo, fx_ui, Int.toNat_natCast, ↓reduceIte, Int.reduceEq, Int.reduceLT, Int.reduceLE, Int.reduceNeg, e1, c2, c3, s1, s2]
        · rw [entX7_board]
          by_cases x2 : cols < 0
          · simp (disch := omega) only [eX7_board_0, eX7_board_1, eX7_board_2, eX7_board_5, eX7_board_8, eX7_board_9, eX7_board_12, eX7_board_13, eX7_board_16, eX7_board_17, eX7_board_19, eX7_board_20, eX7_board_21, eX7_board_23, eX7_board_24, eX7_board_27, eX7_board_28, eX7_board_30, eX7_board_31, eX7_board_32, eX7_board_35, eX7_board_36, eX7_board_37, eX7_board_41, eX7_board_43, eX7_board_44, eX7_board_45, eX7_board_47, eX7_board_48, eX7_board_51, eX7_board_52, eX7_board_54, eX7_board_55, eX7_board_56, eX7_board_59, eX7_board_60, eX7_board_61, eX7_board_64, eX7_board_65, eX7_board_67, eX7_board_70, eX7_board_71, eX7_board_72, eX7_board_74, eX7_board_77, eX7_board_79, eX7_board_80, eX7_board_81, eX7_board_82, eX7_board_83, eX7_board_85, eX7_board_86, eX7_board_87, eX7_board_89, eX7_board_90, eX7_board_91, eX7_board_93, eX7_board_94, eX7_board_95, eX7_board_97, eX7_board_98, eX7_board_101, eX7_board_102, eX7_board_105, eX7_board_106, eX7_board_107, fx_bd_some, Option.toList_some, Option.toList_none, List.nil_append, List.cons_append, fx_uo, fx_ui, Int.toNat_natCast, ↓reduceIte, Int.reduceEq, Int.reduceLT, Int.reduceLE, Int.reduceNeg, e2, m3, m4, x1, eq_true x2]
          · simp (disch := omega) only [eX7_board_0, eX7_board_1, eX7_board_2, eX7_board_5, eX7_board_8, eX7_board_9, eX7_board_12, eX7_board_13, eX7_board_16, eX7_board_17, eX7_board_19, eX7_board_20, eX7_board_21, eX7_board_23, eX7_board_24, eX7_board_27, eX7_board_28, eX7_board_30, eX7_board_31, eX7_board_32, eX7_board_35, eX7_board_36, eX7_board_37, eX7_board_40, eX7_board_41, eX7_board_43, eX7_board_44, eX7_board_45, eX7_board_47, eX7_board_48, eX7_board_51, eX7_board_52, eX7_board_54, eX7_board_55, eX7_board_56, eX7_board_59, eX7_board_60, eX7_board_61, eX7_board_64, eX7_board_65, eX7_board_67, eX7_board_70, eX7_board_71, eX7_board_72, eX7_board_74, eX7_board_77, eX7_board_79, eX7_board_80, eX7_board_81, eX7_board_82, eX7_board_83, eX7_board_85, eX7_board_86, eX7_board_87, eX7_board_89, eX7_board_90, eX7_board_91, eX7_board_93, eX7_board_94, eX7_board_95, eX7_board_97, eX7_board_98, eX7_board_101, eX7_board_102, eX7_board_105, eX7_board_106, eX7_board_107, fx_bd_some, Option.toList_some, Option.toList_none, List.nil_append, List.cons_append, fx_uo, fx_ui, Int.toNat_natCast, ↓reduceIte, Int.reduceEq, Int.reduceLT, Int.reduceLE, Int.reduceNeg, e2, m3, m4, x1, eq_false x2]
            repeat (first | rw [if_pos (by omega)] | rw [if_neg (by omega)])
            by_cases x3 : cols % 24 < cols / 24
            · repeat (first | rw [if_pos (by omega)] | rw [if_neg (by omega)])
            · repeat (first | rw [if_pos (by omega)] | rw [if_neg (by omega)])
    · rw [if_neg q1] at s1
      refine Ag.same h (-1) ?_ ?_
      · rw [entX6_board]
        simp (disch := omega) only [eX6_board_0, eX6_board_1, eX6_board_2, eX6_board_5, eX6_board_7, eX6_board_9_n, eX6_board_9_s, eX6_board_12, eX6_board_13, eX6_board_15, eX6_board_18, eX6_board_21, eX6_board_24, eX6_board_27, eX6_board_28, eX6_board_30, eX6_board_33, eX6_board_36, eX6_board_39, eX6_board_42, eX6_board_43, eX6_board_44, eX6_board_46, eX6_board_49, eX6_board_51, eX6_board_54, eX6_board_56, eX6_board_57, eX6_board_58, eX6_board_60, eX6_board_61, eX6_board_65, eX6_board_66, eX6_board_68, eX6_board_69, eX6_board_72, eX6_board_73, eX6_board_75, eX6_board_76, eX6_board_80, eX6_board_81, eX6_board_83, eX6_board_84, eX6_board_87, eX6_board_89, eX6_board_92, eX6_board_94, eX6_board_96, eX6_board_97, eX6_board_99, eX6_board_100, eX6_board_101, eX6_board_102, eX6_board_105, eX6_board_108, eX6_board_111, eX6_board_114, eX6_board_116, eX6_board_117, eX6_board_120, eX6_board_121, eX6_board_122, eX6_board_125, eX6_board_127, eX6_board_130, fx_bd_some, Option.toList_some, Option.toList_none, List.nil_append, List.cons_append, fx_uo, fx_ui, Int.toNat_natCast, ↓reduceIte, Int.reduceEq, Int.reduceLT, Int.reduceLE, Int.reduceNeg, e1, c2, c3, s1]
      · rw [entX7_board]
        by_cases x1 : rows < 0
        · simp (disch := omega) only [eX7_board_0, eX7_board_1, eX7_board_2, eX7_board_5, eX7_board_8, eX7_board_9, eX7_board_13, eX7_board_16, eX7_board_17, eX7_board_19, eX7_board_20, eX7_board_21, eX7_board_23, eX7_board_24, eX7_board_27, eX7_board_28, eX7_board_30, eX7_board_31, eX7_board_32, eX7_board_35, eX7_board_36, eX7_board_37, eX7_board_40, eX7_board_41, eX7_board_43, eX7_board_44, eX7_board_45, eX7_board_47, eX7_board_48, eX7_board_51, eX7_board_52, eX7_board_54, eX7_board_55, eX7_board_56, eX7_board_59, eX7_board_60, eX7_board_61, eX7_board_64, eX7_board_65, eX7_board_67, eX7_board_70, eX7_board_71, eX7_board_72, eX7_board_74, eX7_board_77, eX7_board_79, eX7_board_80, eX7_board_81, eX7_board_82, eX7_board_83, eX7_board_85, eX7_board_86, eX7_board_87, eX7_board_89, eX7_board_90, eX7_board_91, eX7_board_93, eX7_board_94, eX7_board_95, eX7_board_97, eX7_board_98, eX7_board_101, eX7_board_102, eX7_board_105, eX7_board_106, eX7_board_107, fx_bd_some, Option.toList_some, Option.toList_none, List.nil_append, List.cons_append, fx_uo, fx_ui, Int.toNat_natCast, ↓reduceIte, Int.reduceEq, Int.reduceLT, Int.reduceLE, Int.reduceNeg, e2, m3, m4, eq_true x1]
        · by_cases x2 : cols < 0
          · simp (disch := omega) only [eX7_board_0, eX7_board_1, eX7_board_2, eX7_board_5, eX7_board_8, eX7_board_9, eX7_board_12, eX7_board_13, eX7_board_17, eX7_board_19, eX7_board_20, eX7_board_21, eX7_board_23, eX7_board_24, eX7_board_27, eX7_board_28, eX7_board_30, eX7_board_31, eX7_board_32, eX7_board_35, eX7_board_36, eX7_board_37, eX7_board_40, eX7_board_41, eX7_board_43, eX7_board_44, eX7_board_45, eX7_board_47, eX7_board_48, eX7_board_51, eX7_board_52, eX7_board_54, eX7_board_55, eX7_board_56, eX7_board_59, eX7_board_60, eX7_board_61, eX7_board_64, eX7_board_65, eX7_board_67, eX7_board_70, eX7_board_71, eX7_board_72, eX7_board_74, eX7_board_77, eX7_board_79, eX7_board_80, eX7_board_81, eX7_board_82, eX7_board_83, eX7_board_85, eX7_board_86, eX7_board_87, eX7_board_89, eX7_board_90, eX7_board_91, eX7_board_93, eX7_board_94, eX7_board_95, eX7_board_97, eX7_board_98, eX7_board_101, eX7_board_102, eX7_board_105, eX7_board_106, eX7_board_107, fx_bd_some, Option.toList_some, Option.toList_none, List.nil_append, List.cons_append, fx_uo, fx_ui, Int.toNat_natCast, ↓reduceIte, Int.reduceEq, Int.reduceLT, Int.reduceLE, Int.reduceNeg, e2, m3, m4, eq_false x1, eq_true x2]
          · simp (disch := omega) only [eX7_board_0, eX7_board_1, eX7_board_2, eX7_board_5, eX7_board_8, eX7_board_9, eX7_board_12, eX7_board_13, eX7_board_16, eX7_board_17, eX7_board_19, eX7_board_20, eX7_board_21, eX7_board_23, eX7_board_24, eX7_board_27, eX7_board_28, eX7_board_30, eX7_board_31, eX7_board_32, eX7_board_35, eX7_board_36, eX7_board_37, eX7_board_41, eX7_board_43, eX7_board_44, eX7_board_45, eX7_board_47, eX7_board_48, eX7_board_51, eX7_board_52, eX7_board_54, eX7_board_55, eX7_board_56, eX7_board_59, eX7_board_60, eX7_board_61, eX7_board_64, eX7_board_65, eX7_board_67, eX7_board_70, eX7_board_71, eX7_board_72, eX7_board_74, eX7_board_77, eX7_board_79, eX7_board_80, eX7_board_81, eX7_board_82, eX7_board_83, eX7_board_85, eX7_board_86, eX7_board_87, eX7_board_89, eX7_board_90, eX7_board_91, eX7_board_93, eX7_board_94, eX7_board_95, eX7_board_97, eX7_board_98, eX7_board_101, eX7_board_102, eX7_board_105, eX7_board_106, eX7_board_107, fx_bd_some, Option.toList_some, Option.toList_none, List.nil_append, List.cons_append, fx_uo, fx_ui, Int.toNat_natCast, ↓reduceIte, Int.reduceEq, Int.reduceLT, Int.reduceLE, Int.reduceNeg, e2, m3, m4, eq_false x1, eq_false x2]
            by_cases x3 : rows % 24 < rows / 24
            · repeat (first | rw [if_pos (by omega)] | rw [if_neg (by omega)])
            · repeat (first | rw [if_pos (by omega)] | rw [if_neg (by omega)])
  · have e1 := h.clN hc q
    have e2 := Inv.mcN (Rf := Rf) (Cf := Cf) h.1 hc q
    refine Ag.same h (-1) ?_ ?_
    · rw [entX6_board]
      simp (disch := omega) only [eX6_board_0, eX6_board_1, eX6_board_2, eX6_board_5, eX6_board_7, eX6_board_9_n, eX6_board_9_s, eX6_board_12, eX6_board_13, eX6_board_15, eX6_board_18, eX6_board_21, eX6_board_24, eX6_board_27, eX6_board_28, eX6_board_30, eX6_board_33, eX6_board_36, eX6_board_39, eX6_board_42, eX6_board_43, eX6_board_44, eX6_board_46, eX6_board_49, eX6_board_51, eX6_board_54, eX6_board_56, eX6_board_57, eX6_board_58, eX6_board_60, eX6_board_61, eX6_board_65, eX6_board_66, eX6_board_68, eX6_board_69, eX6_board_72, eX6_board_73, eX6_board_75, eX6_board_76, eX6_board_80, eX6_board_81, eX6_board_83, eX6_board_84, eX6_board_87, eX6_board_89, eX6_board_92, eX6_board_94, eX6_board_96, eX6_board_97, eX6_board_99, eX6_board_100, eX6_board_101, eX6_board_102, eX6_board_105, eX6_board_108, eX6_board_111, eX6_board_114, eX6_board_116, eX6_board_117, eX6_board_120, eX6_board_121, eX6_board_122, eX6_board_125, eX6_board_127, eX6_board_130, fx_bd_some, Option.toList_some, Option.toList_none, List.nil_append, List.cons_append, fx_uo, fx_ui, Int.toNat_natCast, ↓reduceIte, Int.reduceEq, Int.reduceLT, Int.reduceLE, Int.reduceNeg, e1]
    · rw [entX7_board]
      simp (disch := omega) only [eX7_board_0, eX7_board_1, eX7_board_2, eX7_board_5, eX7_board_8, eX7_board_9, eX7_board_12, eX7_board_13, eX7_board_16, eX7_board_17, eX7_board_19, eX7_board_20, eX7_board_21, eX7_board_23, eX7_board_24, eX7_board_27, eX7_board_28, eX7_board_30, eX7_board_31, eX7_board_32, eX7_board_35, eX7_board_36, eX7_board_37, eX7_board_40, eX7_board_41, eX7_board_43, eX7_board_44, eX7_board_45, eX7_board_47, eX7_board_48, eX7_board_51, eX7_board_52, eX7_board_54, eX7_board_55, eX7_board_56, eX7_board_59, eX7_board_60, eX7_board_61, eX7_board_64, eX7_board_65, eX7_board_66, eX7_board_67, eX7_board_70, eX7_board_71, eX7_board_72, eX7_board_74, eX7_board_77, eX7_board_79, eX7_board_80, eX7_board_81, eX7_board_82, eX7_board_83, eX7_board_85, eX7_board_86, eX7_board_87, eX7_board_89, eX7_board_90, eX7_board_91, eX7_board_93, eX7_board_94, eX7_board_95, eX7_board_97, eX7_board_98, eX7_board_101, eX7_board_102, eX7_board_105, eX7_board_106, eX7_board_107, fx_bd_some, Option.toList_some, Option.toList_none, List.nil_append, List.cons_append, fx_uo, fx_ui, Int.toNat_natCast, ↓reduceIte, Int.reduceEq, Int.reduceLT, Int.reduceLE, Int.reduceNeg, e2]
